abbrev rm_L_charge : Room := { frames := 8, cells := 1, slots := 6, locals := 126 }
set_option maxHeartbeats 800000 in
set_option maxRecDepth 100000 in
theorem c_L_charge (l : Launch) (dC : Nat → ClassId) (dI : Nat → Nat → Nat) (sa : Nat → Nat) (hlt : l.stackTraces = false) (sz : Nat) (h0 : Nat) (ad : Nat → Nat) (ca : Nat → ClassId) (fv : Nat → Option Nat) (qv : Nat) (nn : Int32) (ou : Nat) (co : ClassId) (fo : Nat → Int64) (p0 : Int32) (p1 : Int32) (hfv : ∀ k, k < 6 → fv k = some (ad (2 + k))) (hq : ¬ p0 < 0 → ¬ 6 ≤ p0 → ad (2 + p0.toNatClampNeg) = qv) : CT l dC dI sa yL_charge wsL_charge rm_L_charge [.ref h0, .int p0, .int p1, .ref ou] [(h0, .inr (9, [.ref (ad 0), .ref (ad 8), .int 0, .int 0, .ref (ad 9), .int 0, .ref (ad 10), .ref (ad 15), .int 0, .ref (ad 16), .ref (ad 17)])), ((ad 0), .inr (8, [.ref (ad 1), .int 0, .int 0])), ((ad 1), .inl ((ca 1), 6, .inr (.inr (.inr (.inr fv))))), (qv, .inr (7, [.int nn, .int 0, .int 0, .int 0, .int 2, .int 0, .int 0, .int (-2)])), (ou, .inl (co, 1, .inr (.inl fo)))] [((ca 1), .object "VatHouse$Vat"), (co, .long)] sz (fun (r : Option Value) (u : Int32 × (Nat → Int64)) => match u with | (k, g) => r = some (.int k) ∧ (∃ y : Int32, E_charge p0 p1 = (k, y) ∧ (k = 0 → g 0 = y.toInt64))) (fun (u : Int32 × (Nat → Int64)) => match u with | (k, g) => [(ou, .inl (co, 1, .inr (.inl g)))]) (fun (u : Int32 × (Nat → Int64)) => match u with | (k, g) => []) 1 6 := by
  refine CT.startW (cc := cL_charge) (maxL := 5) (ret := (some .int)) (hh := [(0, 10, 13, 13)]) (by decide) rfl (Nat.le_of_ble_eq_true rfl) ?_
  intro p e s m below meth c ls hst htab hP hK hD hev hS hl
  obtain ⟨hx, hb, hr, hml, hts, hown, hlocks, hin⟩ := hst
  have hown : s.vm.findClass RL = some m.cls := hown
  have hin : meth.name = yL_charge.name := hin
  have hA : ∀ q : Nat, s.heap.size ≤ q → va_A [(h0, .inr (9, [.ref (ad 0), .ref (ad 8), .int 0, .int 0, .ref (ad 9), .int 0, .ref (ad 10), .ref (ad 15), .int 0, .ref (ad 16), .ref (ad 17)])), ((ad 0), .inr (8, [.ref (ad 1), .int 0, .int 0])), ((ad 1), .inl ((ca 1), 6, .inr (.inr (.inr (.inr fv))))), (qv, .inr (7, [.int nn, .int 0, .int 0, .int 0, .int 2, .int 0, .int 0, .int (-2)])), (ou, .inl (co, 1, .inr (.inl fo)))] s.heap.size q := fun _ h => Or.inr h
  have hl : lv_has ls 5 [(0, .ref h0), (1, .int p0), (2, .int p1), (3, .ref ou)] := hl
  refine lv_aload_n hx hb dL_charge_0 rfl (lv_at hl 3 rfl) ?_
  refine lv_iconst (v := 0) hx hb dL_charge_1 (by decide) ?_
  refine lv_aload_n hx hb dL_charge_2 rfl (lv_at hl 0 rfl) ?_
  refine lv_iload_n hx hb dL_charge_3 rfl (lv_at hl 1 rfl) ?_
  refine lv_iload_n hx hb dL_charge_4 rfl (lv_at hl 2 rfl) ?_
  refine go_VX (wr := [(ou, .inl (co, 1, .inr (.inl fo)))]) ⟨hx, hb, hml, hown, hts⟩ (c_X9_charge l dC dI sa hlt _ h0 ad ca fv qv nn p0 p1 hfv hq) (cwV 2 hts gL_charge_X9_charge rfl rfl rfl (by decide +kernel) ⟨Nat.le_of_ble_eq_true rfl, Nat.le_of_ble_eq_true rfl⟩) hP hD hK hS hA hev [0, 1, 2, 3] [4] [0] rfl rfl rfl rfl (by decide) rfl 0 9 rfl rfl rfl rfl hl.1 rfl (Nat.le_of_ble_eq_true rfl) dL_charge_5 ⟨Nat.le_of_ble_eq_true rfl, Nat.le_of_ble_eq_true rfl⟩ (fun E ce q9 H locs hpx hP hD hS hce hcv hcl => ?_) (fun r u H locs hw hP hD hK hS => ?_)
  · have hpx_1 : E = NSE ∧ E_charge p0 p1 = (1, 0) := hpx
    obtain ⟨rfl, h9_2⟩ := hpx_1
    refine ck_catch (own := RL) (name := NSE) hown [] ⟨0, 10, 13, 13⟩ [] (by rw [htab]; rfl) (fun z hz => nomatch hz) (by decide) (by decide) (hts (.classLink RL 13 NSE) (by decide +kernel)) (hev.2.2.1.1.use rfl) hce hcv hcl ?_
    refine W.eq (g2 := F0 m 13 ls [.ref q9]) rfl ?_
    refine lv_astore (lv' := [(4, .ref q9), (0, .ref h0), (1, .int p0), (2, .int p1), (3, .ref ou)]) hx hb dL_charge_13 hl (by decide) rfl (fun ls hl => ?_)
    refine lv_iconst (v := 1) hx hb dL_charge_15 (by decide) ?_
    exact en_i hx hb hr hlocks hP hD hK hS (1, fo) ⟨rfl, 0, h9_2, fun h => absurd h (by decide)⟩ [0] [] rfl rfl rfl (Nat.le_of_ble_eq_true rfl) (Nat.le_of_ble_eq_true rfl) dL_charge_16
  obtain ⟨x_3, rfl⟩ : ∃ z, z = u := ⟨_, rfl⟩
  have hw : r = some (.int x_3) ∧ (E_charge p0 p1 = (0, x_3)) := hw
  obtain ⟨rfl, hw_4⟩ := hw
  have hP : va_P (dC, dI) vwCl [(ou, .inl (co, 1, .inr (.inl fo)))] _ := hP
  have hD : va_D _ [(ou, .inl (co, 1, .inr (.inl fo)))] := hD
  have hK : va_K (dC, dI) vwCl [((ca 1), .object "VatHouse$Vat"), (co, .long)] s := hK
  refine W.eq (g2 := F0 m 8 ls [.int x_3, .int 0, .ref ou]) rfl ?_
  refine lv_i2l (v := (x_3).toInt64) hx hb dL_charge_8 rfl ?_
  refine va_last hx hb hK hP hD hS 0 1 rfl rfl (by unfold vp_in; decide) dL_charge_9 (fun H locs hP hD hS => ?_)
  have hP : va_P (dC, dI) vwCl [(ou, .inl (co, 1, .inr (.inl (vp_updL fo (0 : Int32).toNatClampNeg ((x_3).toInt64)))))] _ := hP
  have hD : va_D _ [(ou, .inl (co, 1, .inr (.inl (vp_updL fo (0 : Int32).toNatClampNeg ((x_3).toInt64)))))] := hD
  obtain ⟨f_5, ef_5⟩ : ∃ z, z = (vp_updL fo (0 : Int32).toNatClampNeg ((x_3).toInt64)) := ⟨_, rfl⟩
  rw [← ef_5] at hP hD
  refine lv_goto (tgt := 17) hx hb dL_charge_10 (by decide) ?_
  refine lv_iconst (v := 0) hx hb dL_charge_17 (by decide) ?_
  exact en_i hx hb hr hlocks hP hD hK hS (0, f_5) ⟨rfl, _, hw_4, fun _ => by rw [ef_5]; rfl⟩ [0] [] rfl rfl rfl (Nat.le_of_ble_eq_true rfl) (Nat.le_of_ble_eq_true rfl) dL_charge_18

abbrev rm_L_feed : Room := { frames := 8, cells := 2, slots := 12, locals := 126 }
set_option maxHeartbeats 800000 in
set_option maxRecDepth 100000 in
theorem c_L_feed (l : Launch) (dC : Nat → ClassId) (dI : Nat → Nat → Nat) (sa : Nat → Nat) (hlt : l.stackTraces = false) (sz : Nat) (h0 : Nat) (ad : Nat → Nat) (ca : Nat → ClassId) (fv : Nat → Option Nat) (qv : Nat) (nn : Int32) (ou : Nat) (co : ClassId) (fo : Nat → Int64) (p0 : Int32) (p1 : Int32) (hfv : ∀ k, k < 6 → fv k = some (ad (2 + k))) (hq : ¬ p0 < 0 → ¬ 6 ≤ p0 → ad (2 + p0.toNatClampNeg) = qv) : CT l dC dI sa yL_feed wsL_feed rm_L_feed [.ref h0, .int p0, .int p1, .ref ou] [(h0, .inr (9, [.ref (ad 0), .ref (ad 8), .int 0, .int 0, .ref (ad 9), .int 0, .ref (ad 10), .ref (ad 15), .int 0, .ref (ad 16), .ref (ad 17)])), ((ad 0), .inr (8, [.ref (ad 1), .int 0, .int 0])), ((ad 1), .inl ((ca 1), 6, .inr (.inr (.inr (.inr fv))))), (qv, .inr (7, [.int nn, .int 0, .int 0, .int 0, .int 2, .int 0, .int 0, .int (-2)])), (ou, .inl (co, 1, .inr (.inl fo)))] [((ca 1), .object "VatHouse$Vat"), (co, .long)] sz (fun (r : Option Value) (u : Int32 × (Nat → Int64)) => match u with | (k, g) => r = some (.int k) ∧ (∃ y : Int32, E_feed p0 p1 = (k, y) ∧ (k = 0 → g 0 = y.toInt64))) (fun (u : Int32 × (Nat → Int64)) => match u with | (k, g) => [(ou, .inl (co, 1, .inr (.inl g)))]) (fun (u : Int32 × (Nat → Int64)) => match u with | (k, g) => []) 2 12 := by
  refine CT.startW (cc := cL_feed) (maxL := 5) (ret := (some .int)) (hh := [(0, 10, 13, 13), (0, 10, 17, 18)]) (by decide) rfl (Nat.le_of_ble_eq_true rfl) ?_
  intro p e s m below meth c ls hst htab hP hK hD hev hS hl
  obtain ⟨hx, hb, hr, hml, hts, hown, hlocks, hin⟩ := hst
  have hown : s.vm.findClass RL = some m.cls := hown
  have hin : meth.name = yL_feed.name := hin
  have hA : ∀ q : Nat, s.heap.size ≤ q → va_A [(h0, .inr (9, [.ref (ad 0), .ref (ad 8), .int 0, .int 0, .ref (ad 9), .int 0, .ref (ad 10), .ref (ad 15), .int 0, .ref (ad 16), .ref (ad 17)])), ((ad 0), .inr (8, [.ref (ad 1), .int 0, .int 0])), ((ad 1), .inl ((ca 1), 6, .inr (.inr (.inr (.inr fv))))), (qv, .inr (7, [.int nn, .int 0, .int 0, .int 0, .int 2, .int 0, .int 0, .int (-2)])), (ou, .inl (co, 1, .inr (.inl fo)))] s.heap.size q := fun _ h => Or.inr h
  have hl : lv_has ls 5 [(0, .ref h0), (1, .int p0), (2, .int p1), (3, .ref ou)] := hl
  refine lv_aload_n hx hb dL_feed_0 rfl (lv_at hl 3 rfl) ?_
  refine lv_iconst (v := 0) hx hb dL_feed_1 (by decide) ?_
  refine lv_aload_n hx hb dL_feed_2 rfl (lv_at hl 0 rfl) ?_
  refine lv_iload_n hx hb dL_feed_3 rfl (lv_at hl 1 rfl) ?_
  refine lv_iload_n hx hb dL_feed_4 rfl (lv_at hl 2 rfl) ?_
  refine go_VX (wr := [(ou, .inl (co, 1, .inr (.inl fo)))]) ⟨hx, hb, hml, hown, hts⟩ (c_X9_feed l dC dI sa hlt _ h0 ad ca fv qv nn p0 p1 hfv hq) (cwV 2 hts gL_feed_X9_feed rfl rfl rfl (by decide +kernel) ⟨Nat.le_of_ble_eq_true rfl, Nat.le_of_ble_eq_true rfl⟩) hP hD hK hS hA hev [0, 1, 2, 3] [4] [0] rfl rfl rfl rfl (by decide) rfl 0 9 rfl rfl rfl rfl hl.1 rfl (Nat.le_of_ble_eq_true rfl) dL_feed_5 ⟨Nat.le_of_ble_eq_true rfl, Nat.le_of_ble_eq_true rfl⟩ (fun E ce q9 H locs hpx hP hD hS hce hcv hcl => ?_) (fun r u H locs hw hP hD hK hS => ?_)
  · have hpx_1 : (E = NSE ∧ E_feed p0 p1 = (1, 0)) ∨ (E = IAE ∧ E_feed p0 p1 = (2, 0)) := hpx
    rcases hpx_1 with ⟨rfl, h9_2⟩ | ⟨rfl, h9_2⟩
    · refine ck_catch (own := RL) (name := NSE) hown [] ⟨0, 10, 13, 13⟩ [⟨0, 10, 17, 18⟩] (by rw [htab]; rfl) (fun z hz => nomatch hz) (by decide) (by decide) (hts (.classLink RL 13 NSE) (by decide +kernel)) (hev.2.2.1.1.use rfl) hce hcv hcl ?_
      refine W.eq (g2 := F0 m 13 ls [.ref q9]) rfl ?_
      refine lv_astore (lv' := [(4, .ref q9), (0, .ref h0), (1, .int p0), (2, .int p1), (3, .ref ou)]) hx hb dL_feed_13 hl (by decide) rfl (fun ls hl => ?_)
      refine lv_iconst (v := 1) hx hb dL_feed_15 (by decide) ?_
      exact en_i hx hb hr hlocks hP hD hK hS (1, fo) ⟨rfl, 0, h9_2, fun h => absurd h (by decide)⟩ [0] [] rfl rfl rfl (Nat.le_of_ble_eq_true rfl) (Nat.le_of_ble_eq_true rfl) dL_feed_16
    · refine ck_catch (own := RL) (name := IAE) hown [⟨0, 10, 13, 13⟩] ⟨0, 10, 17, 18⟩ [] (by rw [htab]; rfl) (fun z hz => by rcases List.mem_singleton.mp hz with rfl; exact Or.inr ⟨by decide, NSE, hts (.classLink RL 13 NSE) (by decide +kernel), hev.2.2.1.2.2⟩) (by decide) (by decide) (hts (.classLink RL 18 IAE) (by decide +kernel)) (hev.2.2.1.2.1.use rfl) hce hcv hcl ?_
      refine W.eq (g2 := F0 m 17 ls [.ref q9]) rfl ?_
      refine lv_astore (lv' := [(4, .ref q9), (0, .ref h0), (1, .int p0), (2, .int p1), (3, .ref ou)]) hx hb dL_feed_17 hl (by decide) rfl (fun ls hl => ?_)
      refine lv_iconst (v := 2) hx hb dL_feed_19 (by decide) ?_
      exact en_i hx hb hr hlocks hP hD hK hS (2, fo) ⟨rfl, 0, h9_2, fun h => absurd h (by decide)⟩ [0] [] rfl rfl rfl (Nat.le_of_ble_eq_true rfl) (Nat.le_of_ble_eq_true rfl) dL_feed_20
  obtain ⟨x_3, rfl⟩ : ∃ z, z = u := ⟨_, rfl⟩
  have hw : r = some (.int x_3) ∧ (E_feed p0 p1 = (0, x_3)) := hw
  obtain ⟨rfl, hw_4⟩ := hw
  have hP : va_P (dC, dI) vwCl [(ou, .inl (co, 1, .inr (.inl fo)))] _ := hP
  have hD : va_D _ [(ou, .inl (co, 1, .inr (.inl fo)))] := hD
  have hK : va_K (dC, dI) vwCl [((ca 1), .object "VatHouse$Vat"), (co, .long)] s := hK
  refine W.eq (g2 := F0 m 8 ls [.int x_3, .int 0, .ref ou]) rfl ?_
  refine lv_i2l (v := (x_3).toInt64) hx hb dL_feed_8 rfl ?_
  refine va_last hx hb hK hP hD hS 0 1 rfl rfl (by unfold vp_in; decide) dL_feed_9 (fun H locs hP hD hS => ?_)
  have hP : va_P (dC, dI) vwCl [(ou, .inl (co, 1, .inr (.inl (vp_updL fo (0 : Int32).toNatClampNeg ((x_3).toInt64)))))] _ := hP
  have hD : va_D _ [(ou, .inl (co, 1, .inr (.inl (vp_updL fo (0 : Int32).toNatClampNeg ((x_3).toInt64)))))] := hD
  obtain ⟨f_5, ef_5⟩ : ∃ z, z = (vp_updL fo (0 : Int32).toNatClampNeg ((x_3).toInt64)) := ⟨_, rfl⟩
  rw [← ef_5] at hP hD
  refine lv_goto (tgt := 21) hx hb dL_feed_10 (by decide) ?_
  refine lv_iconst (v := 0) hx hb dL_feed_21 (by decide) ?_
  exact en_i hx hb hr hlocks hP hD hK hS (0, f_5) ⟨rfl, _, hw_4, fun _ => by rw [ef_5]; rfl⟩ [0] [] rfl rfl rfl (Nat.le_of_ble_eq_true rfl) (Nat.le_of_ble_eq_true rfl) dL_feed_22

abbrev rm_L_lime : Room := { frames := 8, cells := 1, slots := 6, locals := 125 }
set_option maxHeartbeats 800000 in
set_option maxRecDepth 100000 in
theorem c_L_lime (l : Launch) (dC : Nat → ClassId) (dI : Nat → Nat → Nat) (sa : Nat → Nat) (hlt : l.stackTraces = false) (sz : Nat) (h0 : Nat) (ad : Nat → Nat) (ca : Nat → ClassId) (fv : Nat → Option Nat) (qv : Nat) (nn : Int32) (ou : Nat) (co : ClassId) (fo : Nat → Int64) (p0 : Int32) (hfv : ∀ k, k < 6 → fv k = some (ad (2 + k))) (hq : ¬ p0 < 0 → ¬ 6 ≤ p0 → ad (2 + p0.toNatClampNeg) = qv) : CT l dC dI sa yL_lime wsL_lime rm_L_lime [.ref h0, .int p0, .ref ou] [(h0, .inr (9, [.ref (ad 0), .ref (ad 8), .int 0, .int 0, .ref (ad 9), .int 0, .ref (ad 10), .ref (ad 15), .int 0, .ref (ad 16), .ref (ad 17)])), ((ad 0), .inr (8, [.ref (ad 1), .int 0, .int 0])), ((ad 1), .inl ((ca 1), 6, .inr (.inr (.inr (.inr fv))))), (qv, .inr (7, [.int nn, .int 0, .int 0, .int 0, .int 2, .int 0, .int 0, .int (-2)])), (ou, .inl (co, 1, .inr (.inl fo)))] [((ca 1), .object "VatHouse$Vat"), (co, .long)] sz (fun (r : Option Value) (u : Int32 × (Nat → Int64)) => match u with | (k, g) => r = some (.int k) ∧ (∃ y : Int32, E_lime p0 = (k, y) ∧ (k = 0 → g 0 = y.toInt64))) (fun (u : Int32 × (Nat → Int64)) => match u with | (k, g) => [(ou, .inl (co, 1, .inr (.inl g)))]) (fun (u : Int32 × (Nat → Int64)) => match u with | (k, g) => []) 1 6 := by
  refine CT.startW (cc := cL_lime) (maxL := 4) (ret := (some .int)) (hh := [(0, 9, 12, 13)]) (by decide) rfl (Nat.le_of_ble_eq_true rfl) ?_
  intro p e s m below meth c ls hst htab hP hK hD hev hS hl
  obtain ⟨hx, hb, hr, hml, hts, hown, hlocks, hin⟩ := hst
  have hown : s.vm.findClass RL = some m.cls := hown
  have hin : meth.name = yL_lime.name := hin
  have hA : ∀ q : Nat, s.heap.size ≤ q → va_A [(h0, .inr (9, [.ref (ad 0), .ref (ad 8), .int 0, .int 0, .ref (ad 9), .int 0, .ref (ad 10), .ref (ad 15), .int 0, .ref (ad 16), .ref (ad 17)])), ((ad 0), .inr (8, [.ref (ad 1), .int 0, .int 0])), ((ad 1), .inl ((ca 1), 6, .inr (.inr (.inr (.inr fv))))), (qv, .inr (7, [.int nn, .int 0, .int 0, .int 0, .int 2, .int 0, .int 0, .int (-2)])), (ou, .inl (co, 1, .inr (.inl fo)))] s.heap.size q := fun _ h => Or.inr h
  have hl : lv_has ls 4 [(0, .ref h0), (1, .int p0), (2, .ref ou)] := hl
  refine lv_aload_n hx hb dL_lime_0 rfl (lv_at hl 2 rfl) ?_
  refine lv_iconst (v := 0) hx hb dL_lime_1 (by decide) ?_
  refine lv_aload_n hx hb dL_lime_2 rfl (lv_at hl 0 rfl) ?_
  refine lv_iload_n hx hb dL_lime_3 rfl (lv_at hl 1 rfl) ?_
  refine go_VX (wr := [(ou, .inl (co, 1, .inr (.inl fo)))]) ⟨hx, hb, hml, hown, hts⟩ (c_X9_lime l dC dI sa hlt _ h0 ad ca fv qv nn p0 hfv hq) (cwV 1 hts gL_lime_X9_lime rfl rfl rfl (by decide +kernel) ⟨Nat.le_of_ble_eq_true rfl, Nat.le_of_ble_eq_true rfl⟩) hP hD hK hS hA hev [0, 1, 2, 3] [4] [0] rfl rfl rfl rfl (by decide) rfl 0 9 rfl rfl rfl rfl hl.1 rfl (Nat.le_of_ble_eq_true rfl) dL_lime_4 ⟨Nat.le_of_ble_eq_true rfl, Nat.le_of_ble_eq_true rfl⟩ (fun E ce q9 H locs hpx hP hD hS hce hcv hcl => ?_) (fun r u H locs hw hP hD hK hS => ?_)
  · have hpx_1 : E = NSE ∧ E_lime p0 = (1, 0) := hpx
    obtain ⟨rfl, h9_2⟩ := hpx_1
    refine ck_catch (own := RL) (name := NSE) hown [] ⟨0, 9, 12, 13⟩ [] (by rw [htab]; rfl) (fun z hz => nomatch hz) (by decide) (by decide) (hts (.classLink RL 13 NSE) (by decide +kernel)) (hev.2.2.1.1.use rfl) hce hcv hcl ?_
    refine W.eq (g2 := F0 m 12 ls [.ref q9]) rfl ?_
    refine lv_astore_n (lv' := [(3, .ref q9), (0, .ref h0), (1, .int p0), (2, .ref ou)]) hx hb dL_lime_12 rfl hl (by decide) rfl (fun ls hl => ?_)
    refine lv_iconst (v := 1) hx hb dL_lime_13 (by decide) ?_
    exact en_i hx hb hr hlocks hP hD hK hS (1, fo) ⟨rfl, 0, h9_2, fun h => absurd h (by decide)⟩ [0] [] rfl rfl rfl (Nat.le_of_ble_eq_true rfl) (Nat.le_of_ble_eq_true rfl) dL_lime_14
  obtain ⟨x_3, rfl⟩ : ∃ z, z = u := ⟨_, rfl⟩
  have hw : r = some (.int x_3) ∧ (E_lime p0 = (0, x_3)) := hw
  obtain ⟨rfl, hw_4⟩ := hw
  have hP : va_P (dC, dI) vwCl [(ou, .inl (co, 1, .inr (.inl fo)))] _ := hP
  have hD : va_D _ [(ou, .inl (co, 1, .inr (.inl fo)))] := hD
  have hK : va_K (dC, dI) vwCl [((ca 1), .object "VatHouse$Vat"), (co, .long)] s := hK
  refine W.eq (g2 := F0 m 7 ls [.int x_3, .int 0, .ref ou]) rfl ?_
  refine lv_i2l (v := (x_3).toInt64) hx hb dL_lime_7 rfl ?_
  refine va_last hx hb hK hP hD hS 0 1 rfl rfl (by unfold vp_in; decide) dL_lime_8 (fun H locs hP hD hS => ?_)
  have hP : va_P (dC, dI) vwCl [(ou, .inl (co, 1, .inr (.inl (vp_updL fo (0 : Int32).toNatClampNeg ((x_3).toInt64)))))] _ := hP
  have hD : va_D _ [(ou, .inl (co, 1, .inr (.inl (vp_updL fo (0 : Int32).toNatClampNeg ((x_3).toInt64)))))] := hD
  obtain ⟨f_5, ef_5⟩ : ∃ z, z = (vp_updL fo (0 : Int32).toNatClampNeg ((x_3).toInt64)) := ⟨_, rfl⟩
  rw [← ef_5] at hP hD
  refine lv_goto (tgt := 15) hx hb dL_lime_9 (by decide) ?_
  refine lv_iconst (v := 0) hx hb dL_lime_15 (by decide) ?_
  exact en_i hx hb hr hlocks hP hD hK hS (0, f_5) ⟨rfl, _, hw_4, fun _ => by rw [ef_5]; rfl⟩ [0] [] rfl rfl rfl (Nat.le_of_ble_eq_true rfl) (Nat.le_of_ble_eq_true rfl) dL_lime_16

abbrev rm_L_hours : Room := { frames := 8, cells := 1, slots := 6, locals := 123 }
set_option maxHeartbeats 800000 in
set_option maxRecDepth 100000 in
theorem c_L_hours (l : Launch) (dC : Nat → ClassId) (dI : Nat → Nat → Nat) (sa : Nat → Nat) (hlt : l.stackTraces = false) (sz : Nat) (h0 : Nat) (ad : Nat → Nat) (ca : Nat → ClassId) (fv : Nat → Option Nat) (ou : Nat) (co : ClassId) (fo : Nat → Int64) (p0 : Int32) (hfv : ∀ k, k < 6 → fv k = some (ad (2 + k))) : CT l dC dI sa yL_hours wsL_hours rm_L_hours [.ref h0, .int p0, .ref ou] [(h0, .inr (9, [.ref (ad 0), .ref (ad 8), .int 0, .int 0, .ref (ad 9), .int 0, .ref (ad 10), .ref (ad 15), .int 0, .ref (ad 16), .ref (ad 17)])), ((ad 0), .inr (8, [.ref (ad 1), .int 0, .int 0])), ((ad 1), .inl ((ca 1), 6, .inr (.inr (.inr (.inr fv))))), ((ad 2), .inr (7, [.int 0, .int 0, .int 0, .int 0, .int 2, .int 0, .int 0, .int (-2)])), ((ad 3), .inr (7, [.int 1, .int 0, .int 0, .int 0, .int 2, .int 0, .int 0, .int (-2)])), ((ad 4), .inr (7, [.int 2, .int 0, .int 0, .int 0, .int 2, .int 0, .int 0, .int (-2)])), ((ad 5), .inr (7, [.int 3, .int 0, .int 0, .int 0, .int 2, .int 0, .int 0, .int (-2)])), ((ad 6), .inr (7, [.int 4, .int 0, .int 0, .int 0, .int 2, .int 0, .int 0, .int (-2)])), ((ad 7), .inr (7, [.int 5, .int 0, .int 0, .int 0, .int 2, .int 0, .int 0, .int (-2)])), (ou, .inl (co, 1, .inr (.inl fo)))] [((ca 1), .object "VatHouse$Vat"), (co, .long)] sz (fun (r : Option Value) (u : Int32 × (Nat → Int64)) => match u with | (k, g) => r = some (.int k) ∧ (∃ y : Int32, E_hours p0 = (k, y) ∧ (k = 0 → g 0 = y.toInt64))) (fun (u : Int32 × (Nat → Int64)) => match u with | (k, g) => [(ou, .inl (co, 1, .inr (.inl g)))]) (fun (u : Int32 × (Nat → Int64)) => match u with | (k, g) => []) 1 6 := by
  refine CT.startW (cc := cL_hours) (maxL := 4) (ret := (some .int)) (hh := [(0, 9, 12, 18)]) (by decide) rfl (Nat.le_of_ble_eq_true rfl) ?_
  intro p e s m below meth c ls hst htab hP hK hD hev hS hl
  obtain ⟨hx, hb, hr, hml, hts, hown, hlocks, hin⟩ := hst
  have hown : s.vm.findClass RL = some m.cls := hown
  have hin : meth.name = yL_hours.name := hin
  have hA : ∀ q : Nat, s.heap.size ≤ q → va_A [(h0, .inr (9, [.ref (ad 0), .ref (ad 8), .int 0, .int 0, .ref (ad 9), .int 0, .ref (ad 10), .ref (ad 15), .int 0, .ref (ad 16), .ref (ad 17)])), ((ad 0), .inr (8, [.ref (ad 1), .int 0, .int 0])), ((ad 1), .inl ((ca 1), 6, .inr (.inr (.inr (.inr fv))))), ((ad 2), .inr (7, [.int 0, .int 0, .int 0, .int 0, .int 2, .int 0, .int 0, .int (-2)])), ((ad 3), .inr (7, [.int 1, .int 0, .int 0, .int 0, .int 2, .int 0, .int 0, .int (-2)])), ((ad 4), .inr (7, [.int 2, .int 0, .int 0, .int 0, .int 2, .int 0, .int 0, .int (-2)])), ((ad 5), .inr (7, [.int 3, .int 0, .int 0, .int 0, .int 2, .int 0, .int 0, .int (-2)])), ((ad 6), .inr (7, [.int 4, .int 0, .int 0, .int 0, .int 2, .int 0, .int 0, .int (-2)])), ((ad 7), .inr (7, [.int 5, .int 0, .int 0, .int 0, .int 2, .int 0, .int 0, .int (-2)])), (ou, .inl (co, 1, .inr (.inl fo)))] s.heap.size q := fun _ h => Or.inr h
  have hl : lv_has ls 4 [(0, .ref h0), (1, .int p0), (2, .ref ou)] := hl
  refine lv_aload_n hx hb dL_hours_0 rfl (lv_at hl 2 rfl) ?_
  refine lv_iconst (v := 0) hx hb dL_hours_1 (by decide) ?_
  refine lv_aload_n hx hb dL_hours_2 rfl (lv_at hl 0 rfl) ?_
  refine lv_iload_n hx hb dL_hours_3 rfl (lv_at hl 1 rfl) ?_
  refine go_VX (wr := [(ou, .inl (co, 1, .inr (.inl fo)))]) ⟨hx, hb, hml, hown, hts⟩ (c_X9_hours l dC dI sa hlt _ h0 ad ca fv p0 hfv) (cwV 1 hts gL_hours_X9_hours rfl rfl rfl (by decide +kernel) ⟨Nat.le_of_ble_eq_true rfl, Nat.le_of_ble_eq_true rfl⟩) hP hD hK hS hA hev [0, 1, 2, 3, 4, 5, 6, 7, 8] [9] [0] rfl rfl rfl rfl (by decide) rfl 0 9 rfl rfl rfl rfl hl.1 rfl (Nat.le_of_ble_eq_true rfl) dL_hours_4 ⟨Nat.le_of_ble_eq_true rfl, Nat.le_of_ble_eq_true rfl⟩ (fun E ce q9 H locs hpx hP hD hS hce hcv hcl => ?_) (fun r u H locs hw hP hD hK hS => ?_)
  · have hpx_1 : E = IAE ∧ E_hours p0 = (1, 0) := hpx
    obtain ⟨rfl, h9_2⟩ := hpx_1
    refine ck_catch (own := RL) (name := IAE) hown [] ⟨0, 9, 12, 18⟩ [] (by rw [htab]; rfl) (fun z hz => nomatch hz) (by decide) (by decide) (hts (.classLink RL 18 IAE) (by decide +kernel)) (hev.2.2.1.2.1.use rfl) hce hcv hcl ?_
    refine W.eq (g2 := F0 m 12 ls [.ref q9]) rfl ?_
    refine lv_astore_n (lv' := [(3, .ref q9), (0, .ref h0), (1, .int p0), (2, .ref ou)]) hx hb dL_hours_12 rfl hl (by decide) rfl (fun ls hl => ?_)
    refine lv_iconst (v := 1) hx hb dL_hours_13 (by decide) ?_
    exact en_i hx hb hr hlocks hP hD hK hS (1, fo) ⟨rfl, 0, h9_2, fun h => absurd h (by decide)⟩ [0] [] rfl rfl rfl (Nat.le_of_ble_eq_true rfl) (Nat.le_of_ble_eq_true rfl) dL_hours_14
  obtain ⟨x_3, rfl⟩ : ∃ z, z = u := ⟨_, rfl⟩
  have hw : r = some (.int x_3) ∧ (E_hours p0 = (0, x_3)) := hw
  obtain ⟨rfl, hw_4⟩ := hw
  have hP : va_P (dC, dI) vwCl [(ou, .inl (co, 1, .inr (.inl fo)))] _ := hP
  have hD : va_D _ [(ou, .inl (co, 1, .inr (.inl fo)))] := hD
  have hK : va_K (dC, dI) vwCl [((ca 1), .object "VatHouse$Vat"), (co, .long)] s := hK
  refine W.eq (g2 := F0 m 7 ls [.int x_3, .int 0, .ref ou]) rfl ?_
  refine lv_i2l (v := (x_3).toInt64) hx hb dL_hours_7 rfl ?_
  refine va_last hx hb hK hP hD hS 0 1 rfl rfl (by unfold vp_in; decide) dL_hours_8 (fun H locs hP hD hS => ?_)
  have hP : va_P (dC, dI) vwCl [(ou, .inl (co, 1, .inr (.inl (vp_updL fo (0 : Int32).toNatClampNeg ((x_3).toInt64)))))] _ := hP
  have hD : va_D _ [(ou, .inl (co, 1, .inr (.inl (vp_updL fo (0 : Int32).toNatClampNeg ((x_3).toInt64)))))] := hD
  obtain ⟨f_5, ef_5⟩ : ∃ z, z = (vp_updL fo (0 : Int32).toNatClampNeg ((x_3).toInt64)) := ⟨_, rfl⟩
  rw [← ef_5] at hP hD
  refine lv_goto (tgt := 15) hx hb dL_hours_9 (by decide) ?_
  refine lv_iconst (v := 0) hx hb dL_hours_15 (by decide) ?_
  exact en_i hx hb hr hlocks hP hD hK hS (0, f_5) ⟨rfl, _, hw_4, fun _ => by rw [ef_5]; rfl⟩ [0] [] rfl rfl rfl (Nat.le_of_ble_eq_true rfl) (Nat.le_of_ble_eq_true rfl) dL_hours_16

abbrev rm_L_dip : Room := { frames := 8, cells := 1, slots := 6, locals := 130 }
set_option maxHeartbeats 800000 in
set_option maxRecDepth 100000 in
theorem c_L_dip (l : Launch) (dC : Nat → ClassId) (dI : Nat → Nat → Nat) (sa : Nat → Nat) (hlt : l.stackTraces = false) (sz : Nat) (h0 : Nat) (ad : Nat → Nat) (ou : Nat) (co : ClassId) (fo : Nat → Int64) (p0 : Int32) (p1 : Int32) (p2 : Int32) : CT l dC dI sa yL_dip wsL_dip rm_L_dip [.ref h0, .int p0, .int p1, .int p2, .ref ou] [(h0, .inr (9, [.ref (ad 0), .ref (ad 8), .int 0, .int 0, .ref (ad 9), .int 0, .ref (ad 10), .ref (ad 15), .int 0, .ref (ad 16), .ref (ad 17)])), (ou, .inl (co, 1, .inr (.inl fo)))] [(co, .long)] sz (fun (r : Option Value) (u : Int32 × (Nat → Int64)) => match u with | (k, g) => r = some (.int k) ∧ (k = 1)) (fun (u : Int32 × (Nat → Int64)) => match u with | (k, g) => [(ou, .inl (co, 1, .inr (.inl g)))]) (fun (u : Int32 × (Nat → Int64)) => match u with | (k, g) => []) 1 6 := by
  refine CT.startW (cc := cL_dip) (maxL := 6) (ret := (some .int)) (hh := [(0, 12, 15, 13), (0, 12, 19, 18)]) (by decide) rfl (Nat.le_of_ble_eq_true rfl) ?_
  intro p e s m below meth c ls hst htab hP hK hD hev hS hl
  obtain ⟨hx, hb, hr, hml, hts, hown, hlocks, hin⟩ := hst
  have hown : s.vm.findClass RL = some m.cls := hown
  have hin : meth.name = yL_dip.name := hin
  have hA : ∀ q : Nat, s.heap.size ≤ q → va_A [(h0, .inr (9, [.ref (ad 0), .ref (ad 8), .int 0, .int 0, .ref (ad 9), .int 0, .ref (ad 10), .ref (ad 15), .int 0, .ref (ad 16), .ref (ad 17)])), (ou, .inl (co, 1, .inr (.inl fo)))] s.heap.size q := fun _ h => Or.inr h
  have hl : lv_has ls 6 [(0, .ref h0), (1, .int p0), (2, .int p1), (3, .int p2), (4, .ref ou)] := hl
  refine lv_aload hx hb dL_dip_0 (lv_at hl 4 rfl) ?_
  refine lv_iconst (v := 0) hx hb dL_dip_2 (by decide) ?_
  refine lv_aload_n hx hb dL_dip_3 rfl (lv_at hl 0 rfl) ?_
  refine lv_iload_n hx hb dL_dip_4 rfl (lv_at hl 1 rfl) ?_
  refine lv_iload_n hx hb dL_dip_5 rfl (lv_at hl 2 rfl) ?_
  refine lv_iload_n hx hb dL_dip_6 rfl (lv_at hl 3 rfl) ?_
  refine go_VX (wr := [(ou, .inl (co, 1, .inr (.inl fo)))]) ⟨hx, hb, hml, hown, hts⟩ (c_X9_dip l dC dI sa hlt _ h0 ad p0 p1 p2 ) (cwV 3 hts gL_dip_X9_dip rfl rfl rfl (by decide +kernel) ⟨Nat.le_of_ble_eq_true rfl, Nat.le_of_ble_eq_true rfl⟩) hP hD hK hS hA hev [0] [1] [] rfl rfl rfl rfl (by decide) rfl 0 9 rfl rfl rfl rfl hl.1 rfl (Nat.le_of_ble_eq_true rfl) dL_dip_7 ⟨Nat.le_of_ble_eq_true rfl, Nat.le_of_ble_eq_true rfl⟩ (fun E ce q9 H locs hpx hP hD hS hce hcv hcl => ?_) (fun r u H locs hw hP hD hK hS => ?_)
  · have hpx_1 : E = NSE ∧ True := hpx
    obtain ⟨rfl, h9_2⟩ := hpx_1
    refine ck_catch (own := RL) (name := NSE) hown [] ⟨0, 12, 15, 13⟩ [⟨0, 12, 19, 18⟩] (by rw [htab]; rfl) (fun z hz => nomatch hz) (by decide) (by decide) (hts (.classLink RL 13 NSE) (by decide +kernel)) (hev.2.2.1.1.use rfl) hce hcv hcl ?_
    refine W.eq (g2 := F0 m 15 ls [.ref q9]) rfl ?_
    refine lv_astore (lv' := [(5, .ref q9), (0, .ref h0), (1, .int p0), (2, .int p1), (3, .int p2), (4, .ref ou)]) hx hb dL_dip_15 hl (by decide) rfl (fun ls hl => ?_)
    refine lv_iconst (v := 1) hx hb dL_dip_17 (by decide) ?_
    exact en_i hx hb hr hlocks hP hD hK hS (1, fo) ⟨rfl, rfl⟩ [0] [] rfl rfl rfl (Nat.le_of_ble_eq_true rfl) (Nat.le_of_ble_eq_true rfl) dL_dip_18
  have hw : r = some (.int 0) ∧ (False) := hw
  obtain ⟨rfl, hw_3⟩ := hw
  exact absurd trivial (fun _ => hw_3)

abbrev rm_L_treat : Room := { frames := 8, cells := 1, slots := 6, locals := 127 }
set_option maxHeartbeats 800000 in
set_option maxRecDepth 100000 in
theorem c_L_treat (l : Launch) (dC : Nat → ClassId) (dI : Nat → Nat → Nat) (sa : Nat → Nat) (hlt : l.stackTraces = false) (sz : Nat) (h0 : Nat) (ad : Nat → Nat) (ou : Nat) (co : ClassId) (fo : Nat → Int64) (p0 : Int32) (p1 : Int32) : CT l dC dI sa yL_treat wsL_treat rm_L_treat [.ref h0, .int p0, .int p1, .ref ou] [(h0, .inr (9, [.ref (ad 0), .ref (ad 8), .int 0, .int 0, .ref (ad 9), .int 0, .ref (ad 10), .ref (ad 15), .int 0, .ref (ad 16), .ref (ad 17)])), (ou, .inl (co, 1, .inr (.inl fo)))] [(co, .long)] sz (fun (r : Option Value) (u : Int32 × (Nat → Int64)) => match u with | (k, g) => r = some (.int k) ∧ (k = 1)) (fun (u : Int32 × (Nat → Int64)) => match u with | (k, g) => [(ou, .inl (co, 1, .inr (.inl g)))]) (fun (u : Int32 × (Nat → Int64)) => match u with | (k, g) => []) 1 6 := by
  refine CT.startW (cc := cL_treat) (maxL := 5) (ret := (some .int)) (hh := [(0, 10, 13, 13), (0, 10, 17, 18)]) (by decide) rfl (Nat.le_of_ble_eq_true rfl) ?_
  intro p e s m below meth c ls hst htab hP hK hD hev hS hl
  obtain ⟨hx, hb, hr, hml, hts, hown, hlocks, hin⟩ := hst
  have hown : s.vm.findClass RL = some m.cls := hown
  have hin : meth.name = yL_treat.name := hin
  have hA : ∀ q : Nat, s.heap.size ≤ q → va_A [(h0, .inr (9, [.ref (ad 0), .ref (ad 8), .int 0, .int 0, .ref (ad 9), .int 0, .ref (ad 10), .ref (ad 15), .int 0, .ref (ad 16), .ref (ad 17)])), (ou, .inl (co, 1, .inr (.inl fo)))] s.heap.size q := fun _ h => Or.inr h
  have hl : lv_has ls 5 [(0, .ref h0), (1, .int p0), (2, .int p1), (3, .ref ou)] := hl
  refine lv_aload_n hx hb dL_treat_0 rfl (lv_at hl 3 rfl) ?_
  refine lv_iconst (v := 0) hx hb dL_treat_1 (by decide) ?_
  refine lv_aload_n hx hb dL_treat_2 rfl (lv_at hl 0 rfl) ?_
  refine lv_iload_n hx hb dL_treat_3 rfl (lv_at hl 1 rfl) ?_
  refine lv_iload_n hx hb dL_treat_4 rfl (lv_at hl 2 rfl) ?_
  refine go_VX (wr := [(ou, .inl (co, 1, .inr (.inl fo)))]) ⟨hx, hb, hml, hown, hts⟩ (c_X9_treat l dC dI sa hlt _ h0 ad p0 p1 ) (cwV 2 hts gL_treat_X9_treat rfl rfl rfl (by decide +kernel) ⟨Nat.le_of_ble_eq_true rfl, Nat.le_of_ble_eq_true rfl⟩) hP hD hK hS hA hev [0] [1] [] rfl rfl rfl rfl (by decide) rfl 0 9 rfl rfl rfl rfl hl.1 rfl (Nat.le_of_ble_eq_true rfl) dL_treat_5 ⟨Nat.le_of_ble_eq_true rfl, Nat.le_of_ble_eq_true rfl⟩ (fun E ce q9 H locs hpx hP hD hS hce hcv hcl => ?_) (fun r u H locs hw hP hD hK hS => ?_)
  · have hpx_1 : E = NSE ∧ True := hpx
    obtain ⟨rfl, h9_2⟩ := hpx_1
    refine ck_catch (own := RL) (name := NSE) hown [] ⟨0, 10, 13, 13⟩ [⟨0, 10, 17, 18⟩] (by rw [htab]; rfl) (fun z hz => nomatch hz) (by decide) (by decide) (hts (.classLink RL 13 NSE) (by decide +kernel)) (hev.2.2.1.1.use rfl) hce hcv hcl ?_
    refine W.eq (g2 := F0 m 13 ls [.ref q9]) rfl ?_
    refine lv_astore (lv' := [(4, .ref q9), (0, .ref h0), (1, .int p0), (2, .int p1), (3, .ref ou)]) hx hb dL_treat_13 hl (by decide) rfl (fun ls hl => ?_)
    refine lv_iconst (v := 1) hx hb dL_treat_15 (by decide) ?_
    exact en_i hx hb hr hlocks hP hD hK hS (1, fo) ⟨rfl, rfl⟩ [0] [] rfl rfl rfl (Nat.le_of_ble_eq_true rfl) (Nat.le_of_ble_eq_true rfl) dL_treat_16
  have hw : r = some (.int 0) ∧ (False) := hw
  obtain ⟨rfl, hw_3⟩ := hw
  exact absurd trivial (fun _ => hw_3)

abbrev rm_L_recipe : Room := { frames := 8, cells := 2, slots := 7, locals := 125 }
set_option maxHeartbeats 800000 in
set_option maxRecDepth 100000 in
theorem c_L_recipe (l : Launch) (dC : Nat → ClassId) (dI : Nat → Nat → Nat) (sa : Nat → Nat) (hlt : l.stackTraces = false) (sz : Nat) (h0 : Nat) (ad : Nat → Nat) (ca : Nat → ClassId) (ou : Nat) (co : ClassId) (fo : Nat → Int64) (p0 : Int32) (p1 : Int32) : CT l dC dI sa yL_recipe wsL_recipe rm_L_recipe [.ref h0, .int p0, .int p1, .ref ou] [(h0, .inr (9, [.ref (ad 0), .ref (ad 8), .int 0, .int 0, .ref (ad 9), .int 0, .ref (ad 10), .ref (ad 15), .int 0, .ref (ad 16), .ref (ad 17)])), ((ad 10), .inr (2, [.ref (ad 11), .int 0, .int 0, .int 0, .int (-1), .int 0])), ((ad 11), .inr (6, [.ref (ad 9), .int 0, .int 0, .int 0, .ref (ad 12), .ref (ad 13), .ref (ad 14)])), ((ad 12), .inl ((ca 12), 1501, .inl (fun _ => 0))), ((ad 13), .inl ((ca 13), 1501, .inl (fun _ => 0))), ((ad 14), .inl ((ca 14), 1501, .inl (fun _ => 0))), ((ad 9), .inl ((ca 9), 1500, .inl (fun _ => 0))), ((ad 15), .inl ((ca 15), 8, .inr (.inr (.inr (.inr (fun _ => none)))))), (ou, .inl (co, 1, .inr (.inl fo)))] [((ca 12), .int), ((ca 13), .int), ((ca 14), .int), ((ca 9), .byte), ((ca 15), .object "VatHouse$Recipe"), (co, .long)] sz (fun (r : Option Value) (u : Int32 × (Nat → Int64)) => match u with | (k, g) => r = some (.int k) ∧ (∃ y : Int32, E_recipe p0 p1 = (k, y) ∧ (k = 0 → g 0 = y.toInt64))) (fun (u : Int32 × (Nat → Int64)) => match u with | (k, g) => [(ou, .inl (co, 1, .inr (.inl g)))]) (fun (u : Int32 × (Nat → Int64)) => match u with | (k, g) => []) 2 7 := by
  refine CT.startW (cc := cL_recipe) (maxL := 5) (ret := (some .int)) (hh := [(0, 10, 13, 18)]) (by decide) rfl (Nat.le_of_ble_eq_true rfl) ?_
  intro p e s m below meth c ls hst htab hP hK hD hev hS hl
  obtain ⟨hx, hb, hr, hml, hts, hown, hlocks, hin⟩ := hst
  have hown : s.vm.findClass RL = some m.cls := hown
  have hin : meth.name = yL_recipe.name := hin
  have hA : ∀ q : Nat, s.heap.size ≤ q → va_A [(h0, .inr (9, [.ref (ad 0), .ref (ad 8), .int 0, .int 0, .ref (ad 9), .int 0, .ref (ad 10), .ref (ad 15), .int 0, .ref (ad 16), .ref (ad 17)])), ((ad 10), .inr (2, [.ref (ad 11), .int 0, .int 0, .int 0, .int (-1), .int 0])), ((ad 11), .inr (6, [.ref (ad 9), .int 0, .int 0, .int 0, .ref (ad 12), .ref (ad 13), .ref (ad 14)])), ((ad 12), .inl ((ca 12), 1501, .inl (fun _ => 0))), ((ad 13), .inl ((ca 13), 1501, .inl (fun _ => 0))), ((ad 14), .inl ((ca 14), 1501, .inl (fun _ => 0))), ((ad 9), .inl ((ca 9), 1500, .inl (fun _ => 0))), ((ad 15), .inl ((ca 15), 8, .inr (.inr (.inr (.inr (fun _ => none)))))), (ou, .inl (co, 1, .inr (.inl fo)))] s.heap.size q := fun _ h => Or.inr h
  have hl : lv_has ls 5 [(0, .ref h0), (1, .int p0), (2, .int p1), (3, .ref ou)] := hl
  refine lv_aload_n hx hb dL_recipe_0 rfl (lv_at hl 3 rfl) ?_
  refine lv_iconst (v := 0) hx hb dL_recipe_1 (by decide) ?_
  refine lv_aload_n hx hb dL_recipe_2 rfl (lv_at hl 0 rfl) ?_
  refine lv_iload_n hx hb dL_recipe_3 rfl (lv_at hl 1 rfl) ?_
  refine lv_iload_n hx hb dL_recipe_4 rfl (lv_at hl 2 rfl) ?_
  refine go_VX (wr := [(ou, .inl (co, 1, .inr (.inl fo)))]) ⟨hx, hb, hml, hown, hts⟩ (c_X9_recipe l dC dI sa hlt _ h0 ad ca p0 p1 ) (cwV 2 hts gL_recipe_X9_recipe rfl rfl rfl (by decide +kernel) ⟨Nat.le_of_ble_eq_true rfl, Nat.le_of_ble_eq_true rfl⟩) hP hD hK hS hA hev [0, 1, 2, 3, 4, 5, 6, 7] [8] [0, 1, 2, 3, 4] rfl rfl rfl rfl (by decide) rfl 0 9 rfl rfl rfl rfl hl.1 rfl (Nat.le_of_ble_eq_true rfl) dL_recipe_5 ⟨Nat.le_of_ble_eq_true rfl, Nat.le_of_ble_eq_true rfl⟩ (fun E ce q9 H locs hpx hP hD hS hce hcv hcl => ?_) (fun r u H locs hw hP hD hK hS => ?_)
  · have hpx_1 : E = IAE ∧ E_recipe p0 p1 = (1, 0) := hpx
    obtain ⟨rfl, h9_2⟩ := hpx_1
    refine ck_catch (own := RL) (name := IAE) hown [] ⟨0, 10, 13, 18⟩ [] (by rw [htab]; rfl) (fun z hz => nomatch hz) (by decide) (by decide) (hts (.classLink RL 18 IAE) (by decide +kernel)) (hev.2.2.1.2.1.use rfl) hce hcv hcl ?_
    refine W.eq (g2 := F0 m 13 ls [.ref q9]) rfl ?_
    refine lv_astore (lv' := [(4, .ref q9), (0, .ref h0), (1, .int p0), (2, .int p1), (3, .ref ou)]) hx hb dL_recipe_13 hl (by decide) rfl (fun ls hl => ?_)
    refine lv_iconst (v := 1) hx hb dL_recipe_15 (by decide) ?_
    exact en_i hx hb hr hlocks hP hD hK hS (1, fo) ⟨rfl, 0, h9_2, fun h => absurd h (by decide)⟩ [0] [] rfl rfl rfl (Nat.le_of_ble_eq_true rfl) (Nat.le_of_ble_eq_true rfl) dL_recipe_16
  obtain ⟨x_3, rfl⟩ : ∃ z, z = u := ⟨_, rfl⟩
  have hw : r = some (.int x_3) ∧ (E_recipe p0 p1 = (0, x_3)) := hw
  obtain ⟨rfl, hw_4⟩ := hw
  have hP : va_P (dC, dI) vwCl [(ou, .inl (co, 1, .inr (.inl fo)))] _ := hP
  have hD : va_D _ [(ou, .inl (co, 1, .inr (.inl fo)))] := hD
  have hK : va_K (dC, dI) vwCl [((ca 12), .int), ((ca 13), .int), ((ca 14), .int), ((ca 9), .byte), ((ca 15), .object "VatHouse$Recipe"), (co, .long)] s := hK
  refine W.eq (g2 := F0 m 8 ls [.int x_3, .int 0, .ref ou]) rfl ?_
  refine lv_i2l (v := (x_3).toInt64) hx hb dL_recipe_8 rfl ?_
  refine va_last hx hb hK hP hD hS 0 5 rfl rfl (by unfold vp_in; decide) dL_recipe_9 (fun H locs hP hD hS => ?_)
  have hP : va_P (dC, dI) vwCl [(ou, .inl (co, 1, .inr (.inl (vp_updL fo (0 : Int32).toNatClampNeg ((x_3).toInt64)))))] _ := hP
  have hD : va_D _ [(ou, .inl (co, 1, .inr (.inl (vp_updL fo (0 : Int32).toNatClampNeg ((x_3).toInt64)))))] := hD
  obtain ⟨f_5, ef_5⟩ : ∃ z, z = (vp_updL fo (0 : Int32).toNatClampNeg ((x_3).toInt64)) := ⟨_, rfl⟩
  rw [← ef_5] at hP hD
  refine lv_goto (tgt := 17) hx hb dL_recipe_10 (by decide) ?_
  refine lv_iconst (v := 0) hx hb dL_recipe_17 (by decide) ?_
  exact en_i hx hb hr hlocks hP hD hK hS (0, f_5) ⟨rfl, _, hw_4, fun _ => by rw [ef_5]; rfl⟩ [0] [] rfl rfl rfl (Nat.le_of_ble_eq_true rfl) (Nat.le_of_ble_eq_true rfl) dL_recipe_18

abbrev rm_L_fault : Room := { frames := 7, cells := 1, slots := 6, locals := 103 }
set_option maxHeartbeats 800000 in
set_option maxRecDepth 100000 in
theorem c_L_fault (l : Launch) (dC : Nat → ClassId) (dI : Nat → Nat → Nat) (sa : Nat → Nat) (hlt : l.stackTraces = false) (sz : Nat) (h0 : Nat) (ad : Nat → Nat) (ou : Nat) (co : ClassId) (fo : Nat → Int64) (p0 : Int32) : CT l dC dI sa yL_fault wsL_fault rm_L_fault [.ref h0, .int p0, .ref ou] [(h0, .inr (9, [.ref (ad 0), .ref (ad 8), .int 0, .int 0, .ref (ad 9), .int 0, .ref (ad 10), .ref (ad 15), .int 0, .ref (ad 16), .ref (ad 17)])), ((ad 10), .inr (2, [.ref (ad 11), .int 0, .int 0, .int 0, .int (-1), .int 0])), (ou, .inl (co, 1, .inr (.inl fo)))] [(co, .long)] sz (fun (r : Option Value) (u : Int32 × (Nat → Int64)) => match u with | (k, g) => r = some (.int k) ∧ (∃ y : Int32, E_fault p0 = (k, y) ∧ (k = 0 → g 0 = y.toInt64))) (fun (u : Int32 × (Nat → Int64)) => match u with | (k, g) => [(ou, .inl (co, 1, .inr (.inl g)))]) (fun (u : Int32 × (Nat → Int64)) => match u with | (k, g) => []) 1 6 := by
  refine CT.startW (cc := cL_fault) (maxL := 4) (ret := (some .int)) (hh := [(0, 9, 12, 13)]) (by decide) rfl (Nat.le_of_ble_eq_true rfl) ?_
  intro p e s m below meth c ls hst htab hP hK hD hev hS hl
  obtain ⟨hx, hb, hr, hml, hts, hown, hlocks, hin⟩ := hst
  have hown : s.vm.findClass RL = some m.cls := hown
  have hin : meth.name = yL_fault.name := hin
  have hA : ∀ q : Nat, s.heap.size ≤ q → va_A [(h0, .inr (9, [.ref (ad 0), .ref (ad 8), .int 0, .int 0, .ref (ad 9), .int 0, .ref (ad 10), .ref (ad 15), .int 0, .ref (ad 16), .ref (ad 17)])), ((ad 10), .inr (2, [.ref (ad 11), .int 0, .int 0, .int 0, .int (-1), .int 0])), (ou, .inl (co, 1, .inr (.inl fo)))] s.heap.size q := fun _ h => Or.inr h
  have hl : lv_has ls 4 [(0, .ref h0), (1, .int p0), (2, .ref ou)] := hl
  refine lv_aload_n hx hb dL_fault_0 rfl (lv_at hl 2 rfl) ?_
  refine lv_iconst (v := 0) hx hb dL_fault_1 (by decide) ?_
  refine lv_aload_n hx hb dL_fault_2 rfl (lv_at hl 0 rfl) ?_
  refine lv_iload_n hx hb dL_fault_3 rfl (lv_at hl 1 rfl) ?_
  refine go_VX (wr := [(ou, .inl (co, 1, .inr (.inl fo)))]) ⟨hx, hb, hml, hown, hts⟩ (c_X9_fault l dC dI sa hlt _ h0 ad p0 ) (cwV 1 hts gL_fault_X9_fault rfl rfl rfl (by decide +kernel) ⟨Nat.le_of_ble_eq_true rfl, Nat.le_of_ble_eq_true rfl⟩) hP hD hK hS hA hev [0, 1] [2] [] rfl rfl rfl rfl (by decide) rfl 0 9 rfl rfl rfl rfl hl.1 rfl (Nat.le_of_ble_eq_true rfl) dL_fault_4 ⟨Nat.le_of_ble_eq_true rfl, Nat.le_of_ble_eq_true rfl⟩ (fun E ce q9 H locs hpx hP hD hS hce hcv hcl => ?_) (fun r u H locs hw hP hD hK hS => ?_)
  · have hpx_1 : E = NSE ∧ E_fault p0 = (1, 0) := hpx
    obtain ⟨rfl, h9_2⟩ := hpx_1
    refine ck_catch (own := RL) (name := NSE) hown [] ⟨0, 9, 12, 13⟩ [] (by rw [htab]; rfl) (fun z hz => nomatch hz) (by decide) (by decide) (hts (.classLink RL 13 NSE) (by decide +kernel)) (hev.2.2.1.1.use rfl) hce hcv hcl ?_
    refine W.eq (g2 := F0 m 12 ls [.ref q9]) rfl ?_
    refine lv_astore_n (lv' := [(3, .ref q9), (0, .ref h0), (1, .int p0), (2, .ref ou)]) hx hb dL_fault_12 rfl hl (by decide) rfl (fun ls hl => ?_)
    refine lv_iconst (v := 1) hx hb dL_fault_13 (by decide) ?_
    exact en_i hx hb hr hlocks hP hD hK hS (1, fo) ⟨rfl, 0, h9_2, fun h => absurd h (by decide)⟩ [0] [] rfl rfl rfl (Nat.le_of_ble_eq_true rfl) (Nat.le_of_ble_eq_true rfl) dL_fault_14
  obtain ⟨x_3, rfl⟩ : ∃ z, z = u := ⟨_, rfl⟩
  have hw : r = some (.int x_3) ∧ (E_fault p0 = (0, x_3)) := hw
  obtain ⟨rfl, hw_4⟩ := hw
  have hP : va_P (dC, dI) vwCl [(ou, .inl (co, 1, .inr (.inl fo)))] _ := hP
  have hD : va_D _ [(ou, .inl (co, 1, .inr (.inl fo)))] := hD
  have hK : va_K (dC, dI) vwCl [(co, .long)] s := hK
  refine W.eq (g2 := F0 m 7 ls [.int x_3, .int 0, .ref ou]) rfl ?_
  refine lv_i2l (v := (x_3).toInt64) hx hb dL_fault_7 rfl ?_
  refine va_last hx hb hK hP hD hS 0 0 rfl rfl (by unfold vp_in; decide) dL_fault_8 (fun H locs hP hD hS => ?_)
  have hP : va_P (dC, dI) vwCl [(ou, .inl (co, 1, .inr (.inl (vp_updL fo (0 : Int32).toNatClampNeg ((x_3).toInt64)))))] _ := hP
  have hD : va_D _ [(ou, .inl (co, 1, .inr (.inl (vp_updL fo (0 : Int32).toNatClampNeg ((x_3).toInt64)))))] := hD
  obtain ⟨f_5, ef_5⟩ : ∃ z, z = (vp_updL fo (0 : Int32).toNatClampNeg ((x_3).toInt64)) := ⟨_, rfl⟩
  rw [← ef_5] at hP hD
  refine lv_goto (tgt := 15) hx hb dL_fault_9 (by decide) ?_
  refine lv_iconst (v := 0) hx hb dL_fault_15 (by decide) ?_
  exact en_i hx hb hr hlocks hP hD hK hS (0, f_5) ⟨rfl, _, hw_4, fun _ => by rw [ef_5]; rfl⟩ [0] [] rfl rfl rfl (Nat.le_of_ble_eq_true rfl) (Nat.le_of_ble_eq_true rfl) dL_fault_16

abbrev rm_L_run : Room := { frames := 8, cells := 1, slots := 6, locals := 129 }
set_option maxHeartbeats 800000 in
set_option maxRecDepth 100000 in
theorem c_L_run (l : Launch) (dC : Nat → ClassId) (dI : Nat → Nat → Nat) (sa : Nat → Nat) (hlt : l.stackTraces = false) (sz : Nat) (h0 : Nat) (ad : Nat → Nat) (ou : Nat) (co : ClassId) (fo : Nat → Int64) (p0 : Int32) (p1 : Int32) (p2 : Int32) : CT l dC dI sa yL_run wsL_run rm_L_run [.ref h0, .int p0, .int p1, .int p2, .ref ou] [(h0, .inr (9, [.ref (ad 0), .ref (ad 8), .int 0, .int 0, .ref (ad 9), .int 0, .ref (ad 10), .ref (ad 15), .int 0, .ref (ad 16), .ref (ad 17)])), (ou, .inl (co, 1, .inr (.inl fo)))] [(co, .long)] sz (fun (r : Option Value) (u : Int32 × (Nat → Int64)) => match u with | (k, g) => r = some (.int k) ∧ (k = 1)) (fun (u : Int32 × (Nat → Int64)) => match u with | (k, g) => [(ou, .inl (co, 1, .inr (.inl g)))]) (fun (u : Int32 × (Nat → Int64)) => match u with | (k, g) => []) 1 6 := by
  refine CT.startW (cc := cL_run) (maxL := 6) (ret := (some .int)) (hh := [(0, 12, 15, 13)]) (by decide) rfl (Nat.le_of_ble_eq_true rfl) ?_
  intro p e s m below meth c ls hst htab hP hK hD hev hS hl
  obtain ⟨hx, hb, hr, hml, hts, hown, hlocks, hin⟩ := hst
  have hown : s.vm.findClass RL = some m.cls := hown
  have hin : meth.name = yL_run.name := hin
  have hA : ∀ q : Nat, s.heap.size ≤ q → va_A [(h0, .inr (9, [.ref (ad 0), .ref (ad 8), .int 0, .int 0, .ref (ad 9), .int 0, .ref (ad 10), .ref (ad 15), .int 0, .ref (ad 16), .ref (ad 17)])), (ou, .inl (co, 1, .inr (.inl fo)))] s.heap.size q := fun _ h => Or.inr h
  have hl : lv_has ls 6 [(0, .ref h0), (1, .int p0), (2, .int p1), (3, .int p2), (4, .ref ou)] := hl
  refine lv_aload hx hb dL_run_0 (lv_at hl 4 rfl) ?_
  refine lv_iconst (v := 0) hx hb dL_run_2 (by decide) ?_
  refine lv_aload_n hx hb dL_run_3 rfl (lv_at hl 0 rfl) ?_
  refine lv_iload_n hx hb dL_run_4 rfl (lv_at hl 1 rfl) ?_
  refine lv_iload_n hx hb dL_run_5 rfl (lv_at hl 2 rfl) ?_
  refine lv_iload_n hx hb dL_run_6 rfl (lv_at hl 3 rfl) ?_
  refine go_VX (wr := [(ou, .inl (co, 1, .inr (.inl fo)))]) ⟨hx, hb, hml, hown, hts⟩ (c_X9_run l dC dI sa hlt _ h0 ad p0 p1 p2 ) (cwV 3 hts gL_run_X9_run rfl rfl rfl (by decide +kernel) ⟨Nat.le_of_ble_eq_true rfl, Nat.le_of_ble_eq_true rfl⟩) hP hD hK hS hA hev [0] [1] [] rfl rfl rfl rfl (by decide) rfl 0 9 rfl rfl rfl rfl hl.1 rfl (Nat.le_of_ble_eq_true rfl) dL_run_7 ⟨Nat.le_of_ble_eq_true rfl, Nat.le_of_ble_eq_true rfl⟩ (fun E ce q9 H locs hpx hP hD hS hce hcv hcl => ?_) (fun r u H locs hw hP hD hK hS => ?_)
  · have hpx_1 : E = NSE ∧ True := hpx
    obtain ⟨rfl, h9_2⟩ := hpx_1
    refine ck_catch (own := RL) (name := NSE) hown [] ⟨0, 12, 15, 13⟩ [] (by rw [htab]; rfl) (fun z hz => nomatch hz) (by decide) (by decide) (hts (.classLink RL 13 NSE) (by decide +kernel)) (hev.2.2.1.1.use rfl) hce hcv hcl ?_
    refine W.eq (g2 := F0 m 15 ls [.ref q9]) rfl ?_
    refine lv_astore (lv' := [(5, .ref q9), (0, .ref h0), (1, .int p0), (2, .int p1), (3, .int p2), (4, .ref ou)]) hx hb dL_run_15 hl (by decide) rfl (fun ls hl => ?_)
    refine lv_iconst (v := 1) hx hb dL_run_17 (by decide) ?_
    exact en_i hx hb hr hlocks hP hD hK hS (1, fo) ⟨rfl, rfl⟩ [0] [] rfl rfl rfl (Nat.le_of_ble_eq_true rfl) (Nat.le_of_ble_eq_true rfl) dL_run_18
  have hw : r = some (.int 0) ∧ (False) := hw
  obtain ⟨rfl, hw_3⟩ := hw
  exact absurd trivial (fun _ => hw_3)

abbrev rm_L_ran : Room := { frames := 7, cells := 1, slots := 6, locals := 103 }
set_option maxHeartbeats 800000 in
set_option maxRecDepth 100000 in
theorem c_L_ran (l : Launch) (dC : Nat → ClassId) (dI : Nat → Nat → Nat) (sa : Nat → Nat) (hlt : l.stackTraces = false) (sz : Nat) (h0 : Nat) (ad : Nat → Nat) (ou : Nat) (co : ClassId) (fo : Nat → Int64) (p0 : Int32) : CT l dC dI sa yL_ran wsL_ran rm_L_ran [.ref h0, .int p0, .ref ou] [(h0, .inr (9, [.ref (ad 0), .ref (ad 8), .int 0, .int 0, .ref (ad 9), .int 0, .ref (ad 10), .ref (ad 15), .int 0, .ref (ad 16), .ref (ad 17)])), ((ad 16), .inr (4, [.ref (ad 0), .int 0, .int (-1), .int 0, .int 0, .int 0, .int 0, .int 0])), (ou, .inl (co, 1, .inr (.inl fo)))] [(co, .long)] sz (fun (r : Option Value) (u : Int32 × (Nat → Int64)) => match u with | (k, g) => r = some (.int k) ∧ (∃ y : Int32, E_ran p0 = (k, y) ∧ (k = 0 → g 0 = y.toInt64))) (fun (u : Int32 × (Nat → Int64)) => match u with | (k, g) => [(ou, .inl (co, 1, .inr (.inl g)))]) (fun (u : Int32 × (Nat → Int64)) => match u with | (k, g) => []) 1 6 := by
  refine CT.startW (cc := cL_ran) (maxL := 4) (ret := (some .int)) (hh := [(0, 9, 12, 13)]) (by decide) rfl (Nat.le_of_ble_eq_true rfl) ?_
  intro p e s m below meth c ls hst htab hP hK hD hev hS hl
  obtain ⟨hx, hb, hr, hml, hts, hown, hlocks, hin⟩ := hst
  have hown : s.vm.findClass RL = some m.cls := hown
  have hin : meth.name = yL_ran.name := hin
  have hA : ∀ q : Nat, s.heap.size ≤ q → va_A [(h0, .inr (9, [.ref (ad 0), .ref (ad 8), .int 0, .int 0, .ref (ad 9), .int 0, .ref (ad 10), .ref (ad 15), .int 0, .ref (ad 16), .ref (ad 17)])), ((ad 16), .inr (4, [.ref (ad 0), .int 0, .int (-1), .int 0, .int 0, .int 0, .int 0, .int 0])), (ou, .inl (co, 1, .inr (.inl fo)))] s.heap.size q := fun _ h => Or.inr h
  have hl : lv_has ls 4 [(0, .ref h0), (1, .int p0), (2, .ref ou)] := hl
  refine lv_aload_n hx hb dL_ran_0 rfl (lv_at hl 2 rfl) ?_
  refine lv_iconst (v := 0) hx hb dL_ran_1 (by decide) ?_
  refine lv_aload_n hx hb dL_ran_2 rfl (lv_at hl 0 rfl) ?_
  refine lv_iload_n hx hb dL_ran_3 rfl (lv_at hl 1 rfl) ?_
  refine go_VX (wr := [(ou, .inl (co, 1, .inr (.inl fo)))]) ⟨hx, hb, hml, hown, hts⟩ (c_X9_ran l dC dI sa hlt _ h0 ad p0 ) (cwV 1 hts gL_ran_X9_ran rfl rfl rfl (by decide +kernel) ⟨Nat.le_of_ble_eq_true rfl, Nat.le_of_ble_eq_true rfl⟩) hP hD hK hS hA hev [0, 1] [2] [] rfl rfl rfl rfl (by decide) rfl 0 9 rfl rfl rfl rfl hl.1 rfl (Nat.le_of_ble_eq_true rfl) dL_ran_4 ⟨Nat.le_of_ble_eq_true rfl, Nat.le_of_ble_eq_true rfl⟩ (fun E ce q9 H locs hpx hP hD hS hce hcv hcl => ?_) (fun r u H locs hw hP hD hK hS => ?_)
  · have hpx_1 : E = NSE ∧ E_ran p0 = (1, 0) := hpx
    obtain ⟨rfl, h9_2⟩ := hpx_1
    refine ck_catch (own := RL) (name := NSE) hown [] ⟨0, 9, 12, 13⟩ [] (by rw [htab]; rfl) (fun z hz => nomatch hz) (by decide) (by decide) (hts (.classLink RL 13 NSE) (by decide +kernel)) (hev.2.2.1.1.use rfl) hce hcv hcl ?_
    refine W.eq (g2 := F0 m 12 ls [.ref q9]) rfl ?_
    refine lv_astore_n (lv' := [(3, .ref q9), (0, .ref h0), (1, .int p0), (2, .ref ou)]) hx hb dL_ran_12 rfl hl (by decide) rfl (fun ls hl => ?_)
    refine lv_iconst (v := 1) hx hb dL_ran_13 (by decide) ?_
    exact en_i hx hb hr hlocks hP hD hK hS (1, fo) ⟨rfl, 0, h9_2, fun h => absurd h (by decide)⟩ [0] [] rfl rfl rfl (Nat.le_of_ble_eq_true rfl) (Nat.le_of_ble_eq_true rfl) dL_ran_14
  obtain ⟨x_3, rfl⟩ : ∃ z, z = u := ⟨_, rfl⟩
  have hw : r = some (.int x_3) ∧ (E_ran p0 = (0, x_3)) := hw
  obtain ⟨rfl, hw_4⟩ := hw
  have hP : va_P (dC, dI) vwCl [(ou, .inl (co, 1, .inr (.inl fo)))] _ := hP
  have hD : va_D _ [(ou, .inl (co, 1, .inr (.inl fo)))] := hD
  have hK : va_K (dC, dI) vwCl [(co, .long)] s := hK
  refine W.eq (g2 := F0 m 7 ls [.int x_3, .int 0, .ref ou]) rfl ?_
  refine lv_i2l (v := (x_3).toInt64) hx hb dL_ran_7 rfl ?_
  refine va_last hx hb hK hP hD hS 0 0 rfl rfl (by unfold vp_in; decide) dL_ran_8 (fun H locs hP hD hS => ?_)
  have hP : va_P (dC, dI) vwCl [(ou, .inl (co, 1, .inr (.inl (vp_updL fo (0 : Int32).toNatClampNeg ((x_3).toInt64)))))] _ := hP
  have hD : va_D _ [(ou, .inl (co, 1, .inr (.inl (vp_updL fo (0 : Int32).toNatClampNeg ((x_3).toInt64)))))] := hD
  obtain ⟨f_5, ef_5⟩ : ∃ z, z = (vp_updL fo (0 : Int32).toNatClampNeg ((x_3).toInt64)) := ⟨_, rfl⟩
  rw [← ef_5] at hP hD
  refine lv_goto (tgt := 15) hx hb dL_ran_9 (by decide) ?_
  refine lv_iconst (v := 0) hx hb dL_ran_15 (by decide) ?_
  exact en_i hx hb hr hlocks hP hD hK hS (0, f_5) ⟨rfl, _, hw_4, fun _ => by rw [ef_5]; rfl⟩ [0] [] rfl rfl rfl (Nat.le_of_ble_eq_true rfl) (Nat.le_of_ble_eq_true rfl) dL_ran_16

abbrev rm_L_plan : Room := { frames := 8, cells := 1, slots := 6, locals := 129 }
set_option maxHeartbeats 800000 in
set_option maxRecDepth 100000 in
theorem c_L_plan (l : Launch) (dC : Nat → ClassId) (dI : Nat → Nat → Nat) (sa : Nat → Nat) (hlt : l.stackTraces = false) (sz : Nat) (h0 : Nat) (ad : Nat → Nat) (ou : Nat) (co : ClassId) (fo : Nat → Int64) (p0 : Int32) (p1 : Int32) (p2 : Int32) (p3 : Int32) : CT l dC dI sa yL_plan wsL_plan rm_L_plan [.ref h0, .int p0, .int p1, .int p2, .int p3, .ref ou] [(h0, .inr (9, [.ref (ad 0), .ref (ad 8), .int 0, .int 0, .ref (ad 9), .int 0, .ref (ad 10), .ref (ad 15), .int 0, .ref (ad 16), .ref (ad 17)])), (ou, .inl (co, 1, .inr (.inl fo)))] [(co, .long)] sz (fun (r : Option Value) (u : Int32 × (Nat → Int64)) => match u with | (k, g) => r = some (.int k) ∧ (k = 1)) (fun (u : Int32 × (Nat → Int64)) => match u with | (k, g) => [(ou, .inl (co, 1, .inr (.inl g)))]) (fun (u : Int32 × (Nat → Int64)) => match u with | (k, g) => []) 1 6 := by
  refine CT.startW (cc := cL_plan) (maxL := 7) (ret := (some .int)) (hh := [(0, 14, 17, 13), (0, 14, 21, 18)]) (by decide) rfl (Nat.le_of_ble_eq_true rfl) ?_
  intro p e s m below meth c ls hst htab hP hK hD hev hS hl
  obtain ⟨hx, hb, hr, hml, hts, hown, hlocks, hin⟩ := hst
  have hown : s.vm.findClass RL = some m.cls := hown
  have hin : meth.name = yL_plan.name := hin
  have hA : ∀ q : Nat, s.heap.size ≤ q → va_A [(h0, .inr (9, [.ref (ad 0), .ref (ad 8), .int 0, .int 0, .ref (ad 9), .int 0, .ref (ad 10), .ref (ad 15), .int 0, .ref (ad 16), .ref (ad 17)])), (ou, .inl (co, 1, .inr (.inl fo)))] s.heap.size q := fun _ h => Or.inr h
  have hl : lv_has ls 7 [(0, .ref h0), (1, .int p0), (2, .int p1), (3, .int p2), (4, .int p3), (5, .ref ou)] := hl
  refine lv_aload hx hb dL_plan_0 (lv_at hl 5 rfl) ?_
  refine lv_iconst (v := 0) hx hb dL_plan_2 (by decide) ?_
  refine lv_aload_n hx hb dL_plan_3 rfl (lv_at hl 0 rfl) ?_
  refine lv_iload_n hx hb dL_plan_4 rfl (lv_at hl 1 rfl) ?_
  refine lv_iload_n hx hb dL_plan_5 rfl (lv_at hl 2 rfl) ?_
  refine lv_iload_n hx hb dL_plan_6 rfl (lv_at hl 3 rfl) ?_
  refine lv_iload hx hb dL_plan_7 (lv_at hl 4 rfl) ?_
  refine go_VX (wr := [(ou, .inl (co, 1, .inr (.inl fo)))]) ⟨hx, hb, hml, hown, hts⟩ (c_X9_plan l dC dI sa hlt _ h0 ad p0 p1 p2 p3 ) (cwV 4 hts gL_plan_X9_plan rfl rfl rfl (by decide +kernel) ⟨Nat.le_of_ble_eq_true rfl, Nat.le_of_ble_eq_true rfl⟩) hP hD hK hS hA hev [0] [1] [] rfl rfl rfl rfl (by decide) rfl 0 9 rfl rfl rfl rfl hl.1 rfl (Nat.le_of_ble_eq_true rfl) dL_plan_9 ⟨Nat.le_of_ble_eq_true rfl, Nat.le_of_ble_eq_true rfl⟩ (fun E ce q9 H locs hpx hP hD hS hce hcv hcl => ?_) (fun r u H locs hw hP hD hK hS => ?_)
  · have hpx_1 : E = NSE ∧ True := hpx
    obtain ⟨rfl, h9_2⟩ := hpx_1
    refine ck_catch (own := RL) (name := NSE) hown [] ⟨0, 14, 17, 13⟩ [⟨0, 14, 21, 18⟩] (by rw [htab]; rfl) (fun z hz => nomatch hz) (by decide) (by decide) (hts (.classLink RL 13 NSE) (by decide +kernel)) (hev.2.2.1.1.use rfl) hce hcv hcl ?_
    refine W.eq (g2 := F0 m 17 ls [.ref q9]) rfl ?_
    refine lv_astore (lv' := [(6, .ref q9), (0, .ref h0), (1, .int p0), (2, .int p1), (3, .int p2), (4, .int p3), (5, .ref ou)]) hx hb dL_plan_17 hl (by decide) rfl (fun ls hl => ?_)
    refine lv_iconst (v := 1) hx hb dL_plan_19 (by decide) ?_
    exact en_i hx hb hr hlocks hP hD hK hS (1, fo) ⟨rfl, rfl⟩ [0] [] rfl rfl rfl (Nat.le_of_ble_eq_true rfl) (Nat.le_of_ble_eq_true rfl) dL_plan_20
  have hw : r = some (.int 0) ∧ (False) := hw
  obtain ⟨rfl, hw_3⟩ := hw
  exact absurd trivial (fun _ => hw_3)

abbrev rm_L_planned : Room := { frames := 7, cells := 1, slots := 6, locals := 104 }
set_option maxHeartbeats 800000 in
set_option maxRecDepth 100000 in
theorem c_L_planned (l : Launch) (dC : Nat → ClassId) (dI : Nat → Nat → Nat) (sa : Nat → Nat) (hlt : l.stackTraces = false) (sz : Nat) (h0 : Nat) (ad : Nat → Nat) (ou : Nat) (co : ClassId) (fo : Nat → Int64) (p0 : Int32) (p1 : Int32) : CT l dC dI sa yL_planned wsL_planned rm_L_planned [.ref h0, .int p0, .int p1, .ref ou] [(h0, .inr (9, [.ref (ad 0), .ref (ad 8), .int 0, .int 0, .ref (ad 9), .int 0, .ref (ad 10), .ref (ad 15), .int 0, .ref (ad 16), .ref (ad 17)])), ((ad 17), .inr (1, [.ref (ad 0), .ref (ad 18), .ref (ad 25), .int 0, .int 0, .int 0, .ref (ad 26), .ref (ad 27), .ref (ad 28)])), (ou, .inl (co, 1, .inr (.inl fo)))] [(co, .long)] sz (fun (r : Option Value) (u : Int32 × (Nat → Int64)) => match u with | (k, g) => r = some (.int k) ∧ (k = 1)) (fun (u : Int32 × (Nat → Int64)) => match u with | (k, g) => [(ou, .inl (co, 1, .inr (.inl g)))]) (fun (u : Int32 × (Nat → Int64)) => match u with | (k, g) => []) 1 6 := by
  refine CT.startW (cc := cL_planned) (maxL := 5) (ret := (some .int)) (hh := [(0, 10, 13, 13)]) (by decide) rfl (Nat.le_of_ble_eq_true rfl) ?_
  intro p e s m below meth c ls hst htab hP hK hD hev hS hl
  obtain ⟨hx, hb, hr, hml, hts, hown, hlocks, hin⟩ := hst
  have hown : s.vm.findClass RL = some m.cls := hown
  have hin : meth.name = yL_planned.name := hin
  have hA : ∀ q : Nat, s.heap.size ≤ q → va_A [(h0, .inr (9, [.ref (ad 0), .ref (ad 8), .int 0, .int 0, .ref (ad 9), .int 0, .ref (ad 10), .ref (ad 15), .int 0, .ref (ad 16), .ref (ad 17)])), ((ad 17), .inr (1, [.ref (ad 0), .ref (ad 18), .ref (ad 25), .int 0, .int 0, .int 0, .ref (ad 26), .ref (ad 27), .ref (ad 28)])), (ou, .inl (co, 1, .inr (.inl fo)))] s.heap.size q := fun _ h => Or.inr h
  have hl : lv_has ls 5 [(0, .ref h0), (1, .int p0), (2, .int p1), (3, .ref ou)] := hl
  refine lv_aload_n hx hb dL_planned_0 rfl (lv_at hl 3 rfl) ?_
  refine lv_iconst (v := 0) hx hb dL_planned_1 (by decide) ?_
  refine lv_aload_n hx hb dL_planned_2 rfl (lv_at hl 0 rfl) ?_
  refine lv_iload_n hx hb dL_planned_3 rfl (lv_at hl 1 rfl) ?_
  refine lv_iload_n hx hb dL_planned_4 rfl (lv_at hl 2 rfl) ?_
  refine go_VX (wr := [(ou, .inl (co, 1, .inr (.inl fo)))]) ⟨hx, hb, hml, hown, hts⟩ (c_X9_planned l dC dI sa hlt _ h0 ad p0 p1 ) (cwV 2 hts gL_planned_X9_planned rfl rfl rfl (by decide +kernel) ⟨Nat.le_of_ble_eq_true rfl, Nat.le_of_ble_eq_true rfl⟩) hP hD hK hS hA hev [0, 1] [2] [] rfl rfl rfl rfl (by decide) rfl 0 9 rfl rfl rfl rfl hl.1 rfl (Nat.le_of_ble_eq_true rfl) dL_planned_5 ⟨Nat.le_of_ble_eq_true rfl, Nat.le_of_ble_eq_true rfl⟩ (fun E ce q9 H locs hpx hP hD hS hce hcv hcl => ?_) (fun r u H locs hw hP hD hK hS => ?_)
  · have hpx_1 : E = NSE ∧ True := hpx
    obtain ⟨rfl, h9_2⟩ := hpx_1
    refine ck_catch (own := RL) (name := NSE) hown [] ⟨0, 10, 13, 13⟩ [] (by rw [htab]; rfl) (fun z hz => nomatch hz) (by decide) (by decide) (hts (.classLink RL 13 NSE) (by decide +kernel)) (hev.2.2.1.1.use rfl) hce hcv hcl ?_
    refine W.eq (g2 := F0 m 13 ls [.ref q9]) rfl ?_
    refine lv_astore (lv' := [(4, .ref q9), (0, .ref h0), (1, .int p0), (2, .int p1), (3, .ref ou)]) hx hb dL_planned_13 hl (by decide) rfl (fun ls hl => ?_)
    refine lv_iconst (v := 1) hx hb dL_planned_15 (by decide) ?_
    exact en_i hx hb hr hlocks hP hD hK hS (1, fo) ⟨rfl, rfl⟩ [0] [] rfl rfl rfl (Nat.le_of_ble_eq_true rfl) (Nat.le_of_ble_eq_true rfl) dL_planned_16
  have hw : r = some (.int 0) ∧ (False) := hw
  obtain ⟨rfl, hw_3⟩ := hw
  exact absurd trivial (fun _ => hw_3)

abbrev rm_L_vat : Room := { frames := 8, cells := 2, slots := 12, locals := 126 }
set_option maxHeartbeats 800000 in
set_option maxRecDepth 100000 in
theorem c_L_vat (l : Launch) (dC : Nat → ClassId) (dI : Nat → Nat → Nat) (sa : Nat → Nat) (hlt : l.stackTraces = false) (sz : Nat) (h0 : Nat) (ad : Nat → Nat) (ca : Nat → ClassId) (fv : Nat → Option Nat) (qv : Nat) (nn : Int32) (ou : Nat) (co : ClassId) (fo : Nat → Int64) (p0 : Int32) (p1 : Int32) (hfv : ∀ k, k < 6 → fv k = some (ad (2 + k))) (hq : ¬ p0 < 0 → ¬ 6 ≤ p0 → ad (2 + p0.toNatClampNeg) = qv) : CT l dC dI sa yL_vat wsL_vat rm_L_vat [.ref h0, .int p0, .int p1, .ref ou] [(h0, .inr (9, [.ref (ad 0), .ref (ad 8), .int 0, .int 0, .ref (ad 9), .int 0, .ref (ad 10), .ref (ad 15), .int 0, .ref (ad 16), .ref (ad 17)])), ((ad 0), .inr (8, [.ref (ad 1), .int 0, .int 0])), ((ad 1), .inl ((ca 1), 6, .inr (.inr (.inr (.inr fv))))), (qv, .inr (7, [.int nn, .int 0, .int 0, .int 0, .int 2, .int 0, .int 0, .int (-2)])), (ou, .inl (co, 1, .inr (.inl fo)))] [((ca 1), .object "VatHouse$Vat"), (co, .long)] sz (fun (r : Option Value) (u : Int32 × (Nat → Int64)) => match u with | (k, g) => r = some (.int k) ∧ (∃ y : Int32, E_vat p0 p1 = (k, y) ∧ (k = 0 → g 0 = y.toInt64))) (fun (u : Int32 × (Nat → Int64)) => match u with | (k, g) => [(ou, .inl (co, 1, .inr (.inl g)))]) (fun (u : Int32 × (Nat → Int64)) => match u with | (k, g) => []) 2 12 := by
  refine CT.startW (cc := cL_vat) (maxL := 5) (ret := (some .int)) (hh := [(0, 10, 13, 13)]) (by decide) rfl (Nat.le_of_ble_eq_true rfl) ?_
  intro p e s m below meth c ls hst htab hP hK hD hev hS hl
  obtain ⟨hx, hb, hr, hml, hts, hown, hlocks, hin⟩ := hst
  have hown : s.vm.findClass RL = some m.cls := hown
  have hin : meth.name = yL_vat.name := hin
  have hA : ∀ q : Nat, s.heap.size ≤ q → va_A [(h0, .inr (9, [.ref (ad 0), .ref (ad 8), .int 0, .int 0, .ref (ad 9), .int 0, .ref (ad 10), .ref (ad 15), .int 0, .ref (ad 16), .ref (ad 17)])), ((ad 0), .inr (8, [.ref (ad 1), .int 0, .int 0])), ((ad 1), .inl ((ca 1), 6, .inr (.inr (.inr (.inr fv))))), (qv, .inr (7, [.int nn, .int 0, .int 0, .int 0, .int 2, .int 0, .int 0, .int (-2)])), (ou, .inl (co, 1, .inr (.inl fo)))] s.heap.size q := fun _ h => Or.inr h
  have hl : lv_has ls 5 [(0, .ref h0), (1, .int p0), (2, .int p1), (3, .ref ou)] := hl
  refine lv_aload_n hx hb dL_vat_0 rfl (lv_at hl 3 rfl) ?_
  refine lv_iconst (v := 0) hx hb dL_vat_1 (by decide) ?_
  refine lv_aload_n hx hb dL_vat_2 rfl (lv_at hl 0 rfl) ?_
  refine lv_iload_n hx hb dL_vat_3 rfl (lv_at hl 1 rfl) ?_
  refine lv_iload_n hx hb dL_vat_4 rfl (lv_at hl 2 rfl) ?_
  refine go_VX (wr := [(ou, .inl (co, 1, .inr (.inl fo)))]) ⟨hx, hb, hml, hown, hts⟩ (c_X9_vat l dC dI sa hlt _ h0 ad ca fv qv nn p0 p1 hfv hq) (cwV 2 hts gL_vat_X9_vat rfl rfl rfl (by decide +kernel) ⟨Nat.le_of_ble_eq_true rfl, Nat.le_of_ble_eq_true rfl⟩) hP hD hK hS hA hev [0, 1, 2, 3] [4] [0] rfl rfl rfl rfl (by decide) rfl 0 9 rfl rfl rfl rfl hl.1 rfl (Nat.le_of_ble_eq_true rfl) dL_vat_5 ⟨Nat.le_of_ble_eq_true rfl, Nat.le_of_ble_eq_true rfl⟩ (fun E ce q9 H locs hpx hP hD hS hce hcv hcl => ?_) (fun r u H locs hw hP hD hK hS => ?_)
  · have hpx_1 : E = NSE ∧ E_vat p0 p1 = (1, 0) := hpx
    obtain ⟨rfl, h9_2⟩ := hpx_1
    refine ck_catch (own := RL) (name := NSE) hown [] ⟨0, 10, 13, 13⟩ [] (by rw [htab]; rfl) (fun z hz => nomatch hz) (by decide) (by decide) (hts (.classLink RL 13 NSE) (by decide +kernel)) (hev.2.2.1.1.use rfl) hce hcv hcl ?_
    refine W.eq (g2 := F0 m 13 ls [.ref q9]) rfl ?_
    refine lv_astore (lv' := [(4, .ref q9), (0, .ref h0), (1, .int p0), (2, .int p1), (3, .ref ou)]) hx hb dL_vat_13 hl (by decide) rfl (fun ls hl => ?_)
    refine lv_iconst (v := 1) hx hb dL_vat_15 (by decide) ?_
    exact en_i hx hb hr hlocks hP hD hK hS (1, fo) ⟨rfl, 0, h9_2, fun h => absurd h (by decide)⟩ [0] [] rfl rfl rfl (Nat.le_of_ble_eq_true rfl) (Nat.le_of_ble_eq_true rfl) dL_vat_16
  obtain ⟨x_3, rfl⟩ : ∃ z, z = u := ⟨_, rfl⟩
  have hw : r = some (.int x_3) ∧ (E_vat p0 p1 = (0, x_3)) := hw
  obtain ⟨rfl, hw_4⟩ := hw
  have hP : va_P (dC, dI) vwCl [(ou, .inl (co, 1, .inr (.inl fo)))] _ := hP
  have hD : va_D _ [(ou, .inl (co, 1, .inr (.inl fo)))] := hD
  have hK : va_K (dC, dI) vwCl [((ca 1), .object "VatHouse$Vat"), (co, .long)] s := hK
  refine W.eq (g2 := F0 m 8 ls [.int x_3, .int 0, .ref ou]) rfl ?_
  refine lv_i2l (v := (x_3).toInt64) hx hb dL_vat_8 rfl ?_
  refine va_last hx hb hK hP hD hS 0 1 rfl rfl (by unfold vp_in; decide) dL_vat_9 (fun H locs hP hD hS => ?_)
  have hP : va_P (dC, dI) vwCl [(ou, .inl (co, 1, .inr (.inl (vp_updL fo (0 : Int32).toNatClampNeg ((x_3).toInt64)))))] _ := hP
  have hD : va_D _ [(ou, .inl (co, 1, .inr (.inl (vp_updL fo (0 : Int32).toNatClampNeg ((x_3).toInt64)))))] := hD
  obtain ⟨f_5, ef_5⟩ : ∃ z, z = (vp_updL fo (0 : Int32).toNatClampNeg ((x_3).toInt64)) := ⟨_, rfl⟩
  rw [← ef_5] at hP hD
  refine lv_goto (tgt := 17) hx hb dL_vat_10 (by decide) ?_
  refine lv_iconst (v := 0) hx hb dL_vat_17 (by decide) ?_
  exact en_i hx hb hr hlocks hP hD hK hS (0, f_5) ⟨rfl, _, hw_4, fun _ => by rw [ef_5]; rfl⟩ [0] [] rfl rfl rfl (Nat.le_of_ble_eq_true rfl) (Nat.le_of_ble_eq_true rfl) dL_vat_18

abbrev rm_L_about : Room := { frames := 8, cells := 1, slots := 6, locals := 127 }
set_option maxHeartbeats 800000 in
set_option maxRecDepth 100000 in
theorem c_L_about (l : Launch) (dC : Nat → ClassId) (dI : Nat → Nat → Nat) (sa : Nat → Nat) (hlt : l.stackTraces = false) (sz : Nat) (h0 : Nat) (ad : Nat → Nat) (ou : Nat) (co : ClassId) (fo : Nat → Int64) (p0 : Int32) (p1 : Int32) : CT l dC dI sa yL_about wsL_about rm_L_about [.ref h0, .int p0, .int p1, .ref ou] [(h0, .inr (9, [.ref (ad 0), .ref (ad 8), .int 0, .int 0, .ref (ad 9), .int 0, .ref (ad 10), .ref (ad 15), .int 0, .ref (ad 16), .ref (ad 17)])), (ou, .inl (co, 1, .inr (.inl fo)))] [(co, .long)] sz (fun (r : Option Value) (u : Int32 × (Nat → Int64)) => match u with | (k, g) => r = some (.int k) ∧ (k = 1)) (fun (u : Int32 × (Nat → Int64)) => match u with | (k, g) => [(ou, .inl (co, 1, .inr (.inl g)))]) (fun (u : Int32 × (Nat → Int64)) => match u with | (k, g) => []) 1 6 := by
  refine CT.startW (cc := cL_about) (maxL := 5) (ret := (some .int)) (hh := [(0, 10, 13, 13)]) (by decide) rfl (Nat.le_of_ble_eq_true rfl) ?_
  intro p e s m below meth c ls hst htab hP hK hD hev hS hl
  obtain ⟨hx, hb, hr, hml, hts, hown, hlocks, hin⟩ := hst
  have hown : s.vm.findClass RL = some m.cls := hown
  have hin : meth.name = yL_about.name := hin
  have hA : ∀ q : Nat, s.heap.size ≤ q → va_A [(h0, .inr (9, [.ref (ad 0), .ref (ad 8), .int 0, .int 0, .ref (ad 9), .int 0, .ref (ad 10), .ref (ad 15), .int 0, .ref (ad 16), .ref (ad 17)])), (ou, .inl (co, 1, .inr (.inl fo)))] s.heap.size q := fun _ h => Or.inr h
  have hl : lv_has ls 5 [(0, .ref h0), (1, .int p0), (2, .int p1), (3, .ref ou)] := hl
  refine lv_aload_n hx hb dL_about_0 rfl (lv_at hl 3 rfl) ?_
  refine lv_iconst (v := 0) hx hb dL_about_1 (by decide) ?_
  refine lv_aload_n hx hb dL_about_2 rfl (lv_at hl 0 rfl) ?_
  refine lv_iload_n hx hb dL_about_3 rfl (lv_at hl 1 rfl) ?_
  refine lv_iload_n hx hb dL_about_4 rfl (lv_at hl 2 rfl) ?_
  refine go_VX (wr := [(ou, .inl (co, 1, .inr (.inl fo)))]) ⟨hx, hb, hml, hown, hts⟩ (c_X9_about l dC dI sa hlt _ h0 ad p0 p1 ) (cwV 2 hts gL_about_X9_about rfl rfl rfl (by decide +kernel) ⟨Nat.le_of_ble_eq_true rfl, Nat.le_of_ble_eq_true rfl⟩) hP hD hK hS hA hev [0] [1] [] rfl rfl rfl rfl (by decide) rfl 0 9 rfl rfl rfl rfl hl.1 rfl (Nat.le_of_ble_eq_true rfl) dL_about_5 ⟨Nat.le_of_ble_eq_true rfl, Nat.le_of_ble_eq_true rfl⟩ (fun E ce q9 H locs hpx hP hD hS hce hcv hcl => ?_) (fun r u H locs hw hP hD hK hS => ?_)
  · have hpx_1 : E = NSE ∧ True := hpx
    obtain ⟨rfl, h9_2⟩ := hpx_1
    refine ck_catch (own := RL) (name := NSE) hown [] ⟨0, 10, 13, 13⟩ [] (by rw [htab]; rfl) (fun z hz => nomatch hz) (by decide) (by decide) (hts (.classLink RL 13 NSE) (by decide +kernel)) (hev.2.2.1.1.use rfl) hce hcv hcl ?_
    refine W.eq (g2 := F0 m 13 ls [.ref q9]) rfl ?_
    refine lv_astore (lv' := [(4, .ref q9), (0, .ref h0), (1, .int p0), (2, .int p1), (3, .ref ou)]) hx hb dL_about_13 hl (by decide) rfl (fun ls hl => ?_)
    refine lv_iconst (v := 1) hx hb dL_about_15 (by decide) ?_
    exact en_i hx hb hr hlocks hP hD hK hS (1, fo) ⟨rfl, rfl⟩ [0] [] rfl rfl rfl (Nat.le_of_ble_eq_true rfl) (Nat.le_of_ble_eq_true rfl) dL_about_16
  have hw : r = some (.int 0) ∧ (False) := hw
  obtain ⟨rfl, hw_3⟩ := hw
  exact absurd trivial (fun _ => hw_3)

abbrev rm_L_count : Room := { frames := 7, cells := 1, slots := 6, locals := 103 }
set_option maxHeartbeats 800000 in
set_option maxRecDepth 100000 in
theorem c_L_count (l : Launch) (dC : Nat → ClassId) (dI : Nat → Nat → Nat) (sa : Nat → Nat) (hlt : l.stackTraces = false) (sz : Nat) (h0 : Nat) (ad : Nat → Nat) (ou : Nat) (co : ClassId) (fo : Nat → Int64) (p0 : Int32) : CT l dC dI sa yL_count wsL_count rm_L_count [.ref h0, .int p0, .ref ou] [(h0, .inr (9, [.ref (ad 0), .ref (ad 8), .int 0, .int 0, .ref (ad 9), .int 0, .ref (ad 10), .ref (ad 15), .int 0, .ref (ad 16), .ref (ad 17)])), ((ad 0), .inr (8, [.ref (ad 1), .int 0, .int 0])), (ou, .inl (co, 1, .inr (.inl fo)))] [(co, .long)] sz (fun (r : Option Value) (u : Int32 × (Nat → Int64)) => match u with | (k, g) => r = some (.int k) ∧ (∃ y : Int32, E_count p0 = (k, y) ∧ (k = 0 → g 0 = y.toInt64))) (fun (u : Int32 × (Nat → Int64)) => match u with | (k, g) => [(ou, .inl (co, 1, .inr (.inl g)))]) (fun (u : Int32 × (Nat → Int64)) => match u with | (k, g) => []) 1 6 := by
  refine CT.startW (cc := cL_count) (maxL := 4) (ret := (some .int)) (hh := [(0, 9, 12, 13)]) (by decide) rfl (Nat.le_of_ble_eq_true rfl) ?_
  intro p e s m below meth c ls hst htab hP hK hD hev hS hl
  obtain ⟨hx, hb, hr, hml, hts, hown, hlocks, hin⟩ := hst
  have hown : s.vm.findClass RL = some m.cls := hown
  have hin : meth.name = yL_count.name := hin
  have hA : ∀ q : Nat, s.heap.size ≤ q → va_A [(h0, .inr (9, [.ref (ad 0), .ref (ad 8), .int 0, .int 0, .ref (ad 9), .int 0, .ref (ad 10), .ref (ad 15), .int 0, .ref (ad 16), .ref (ad 17)])), ((ad 0), .inr (8, [.ref (ad 1), .int 0, .int 0])), (ou, .inl (co, 1, .inr (.inl fo)))] s.heap.size q := fun _ h => Or.inr h
  have hl : lv_has ls 4 [(0, .ref h0), (1, .int p0), (2, .ref ou)] := hl
  refine lv_aload_n hx hb dL_count_0 rfl (lv_at hl 2 rfl) ?_
  refine lv_iconst (v := 0) hx hb dL_count_1 (by decide) ?_
  refine lv_aload_n hx hb dL_count_2 rfl (lv_at hl 0 rfl) ?_
  refine lv_iload_n hx hb dL_count_3 rfl (lv_at hl 1 rfl) ?_
  refine go_VX (wr := [(ou, .inl (co, 1, .inr (.inl fo)))]) ⟨hx, hb, hml, hown, hts⟩ (c_X9_count l dC dI sa hlt _ h0 ad p0 ) (cwV 1 hts gL_count_X9_count rfl rfl rfl (by decide +kernel) ⟨Nat.le_of_ble_eq_true rfl, Nat.le_of_ble_eq_true rfl⟩) hP hD hK hS hA hev [0, 1] [2] [] rfl rfl rfl rfl (by decide) rfl 0 9 rfl rfl rfl rfl hl.1 rfl (Nat.le_of_ble_eq_true rfl) dL_count_4 ⟨Nat.le_of_ble_eq_true rfl, Nat.le_of_ble_eq_true rfl⟩ (fun E ce q9 H locs hpx hP hD hS hce hcv hcl => ?_) (fun r u H locs hw hP hD hK hS => ?_)
  · have hpx_1 : E = NSE ∧ E_count p0 = (1, 0) := hpx
    obtain ⟨rfl, h9_2⟩ := hpx_1
    refine ck_catch (own := RL) (name := NSE) hown [] ⟨0, 9, 12, 13⟩ [] (by rw [htab]; rfl) (fun z hz => nomatch hz) (by decide) (by decide) (hts (.classLink RL 13 NSE) (by decide +kernel)) (hev.2.2.1.1.use rfl) hce hcv hcl ?_
    refine W.eq (g2 := F0 m 12 ls [.ref q9]) rfl ?_
    refine lv_astore_n (lv' := [(3, .ref q9), (0, .ref h0), (1, .int p0), (2, .ref ou)]) hx hb dL_count_12 rfl hl (by decide) rfl (fun ls hl => ?_)
    refine lv_iconst (v := 1) hx hb dL_count_13 (by decide) ?_
    exact en_i hx hb hr hlocks hP hD hK hS (1, fo) ⟨rfl, 0, h9_2, fun h => absurd h (by decide)⟩ [0] [] rfl rfl rfl (Nat.le_of_ble_eq_true rfl) (Nat.le_of_ble_eq_true rfl) dL_count_14
  obtain ⟨x_3, rfl⟩ : ∃ z, z = u := ⟨_, rfl⟩
  have hw : r = some (.int x_3) ∧ (E_count p0 = (0, x_3)) := hw
  obtain ⟨rfl, hw_4⟩ := hw
  have hP : va_P (dC, dI) vwCl [(ou, .inl (co, 1, .inr (.inl fo)))] _ := hP
  have hD : va_D _ [(ou, .inl (co, 1, .inr (.inl fo)))] := hD
  have hK : va_K (dC, dI) vwCl [(co, .long)] s := hK
  refine W.eq (g2 := F0 m 7 ls [.int x_3, .int 0, .ref ou]) rfl ?_
  refine lv_i2l (v := (x_3).toInt64) hx hb dL_count_7 rfl ?_
  refine va_last hx hb hK hP hD hS 0 0 rfl rfl (by unfold vp_in; decide) dL_count_8 (fun H locs hP hD hS => ?_)
  have hP : va_P (dC, dI) vwCl [(ou, .inl (co, 1, .inr (.inl (vp_updL fo (0 : Int32).toNatClampNeg ((x_3).toInt64)))))] _ := hP
  have hD : va_D _ [(ou, .inl (co, 1, .inr (.inl (vp_updL fo (0 : Int32).toNatClampNeg ((x_3).toInt64)))))] := hD
  obtain ⟨f_5, ef_5⟩ : ∃ z, z = (vp_updL fo (0 : Int32).toNatClampNeg ((x_3).toInt64)) := ⟨_, rfl⟩
  rw [← ef_5] at hP hD
  refine lv_goto (tgt := 15) hx hb dL_count_9 (by decide) ?_
  refine lv_iconst (v := 0) hx hb dL_count_15 (by decide) ?_
  exact en_i hx hb hr hlocks hP hD hK hS (0, f_5) ⟨rfl, _, hw_4, fun _ => by rw [ef_5]; rfl⟩ [0] [] rfl rfl rfl (Nat.le_of_ble_eq_true rfl) (Nat.le_of_ble_eq_true rfl) dL_count_16

abbrev rm_L_faded : Room := { frames := 8, cells := 1, slots := 6, locals := 128 }
set_option maxHeartbeats 800000 in
set_option maxRecDepth 100000 in
theorem c_L_faded (l : Launch) (dC : Nat → ClassId) (dI : Nat → Nat → Nat) (sa : Nat → Nat) (hlt : l.stackTraces = false) (sz : Nat) (h0 : Nat) (ad : Nat → Nat) (ou : Nat) (co : ClassId) (fo : Nat → Int64) (p0 : Int32) (p1 : Int32) (p2 : Int32) : CT l dC dI sa yL_faded wsL_faded rm_L_faded [.ref h0, .int p0, .int p1, .int p2, .ref ou] [(h0, .inr (9, [.ref (ad 0), .ref (ad 8), .int 0, .int 0, .ref (ad 9), .int 0, .ref (ad 10), .ref (ad 15), .int 0, .ref (ad 16), .ref (ad 17)])), (ou, .inl (co, 1, .inr (.inl fo)))] [(co, .long)] sz (fun (r : Option Value) (u : Int32 × (Nat → Int64)) => match u with | (k, g) => r = some (.int k) ∧ (k = 1)) (fun (u : Int32 × (Nat → Int64)) => match u with | (k, g) => [(ou, .inl (co, 1, .inr (.inl g)))]) (fun (u : Int32 × (Nat → Int64)) => match u with | (k, g) => []) 1 6 := by
  refine CT.startW (cc := cL_faded) (maxL := 6) (ret := (some .int)) (hh := [(0, 12, 15, 13), (0, 12, 19, 18)]) (by decide) rfl (Nat.le_of_ble_eq_true rfl) ?_
  intro p e s m below meth c ls hst htab hP hK hD hev hS hl
  obtain ⟨hx, hb, hr, hml, hts, hown, hlocks, hin⟩ := hst
  have hown : s.vm.findClass RL = some m.cls := hown
  have hin : meth.name = yL_faded.name := hin
  have hA : ∀ q : Nat, s.heap.size ≤ q → va_A [(h0, .inr (9, [.ref (ad 0), .ref (ad 8), .int 0, .int 0, .ref (ad 9), .int 0, .ref (ad 10), .ref (ad 15), .int 0, .ref (ad 16), .ref (ad 17)])), (ou, .inl (co, 1, .inr (.inl fo)))] s.heap.size q := fun _ h => Or.inr h
  have hl : lv_has ls 6 [(0, .ref h0), (1, .int p0), (2, .int p1), (3, .int p2), (4, .ref ou)] := hl
  refine lv_aload hx hb dL_faded_0 (lv_at hl 4 rfl) ?_
  refine lv_iconst (v := 0) hx hb dL_faded_2 (by decide) ?_
  refine lv_aload_n hx hb dL_faded_3 rfl (lv_at hl 0 rfl) ?_
  refine lv_iload_n hx hb dL_faded_4 rfl (lv_at hl 1 rfl) ?_
  refine lv_iload_n hx hb dL_faded_5 rfl (lv_at hl 2 rfl) ?_
  refine lv_iload_n hx hb dL_faded_6 rfl (lv_at hl 3 rfl) ?_
  refine go_VX (wr := [(ou, .inl (co, 1, .inr (.inl fo)))]) ⟨hx, hb, hml, hown, hts⟩ (c_X9_faded l dC dI sa hlt _ h0 ad p0 p1 p2 ) (cwV 3 hts gL_faded_X9_faded rfl rfl rfl (by decide +kernel) ⟨Nat.le_of_ble_eq_true rfl, Nat.le_of_ble_eq_true rfl⟩) hP hD hK hS hA hev [0] [1] [] rfl rfl rfl rfl (by decide) rfl 0 9 rfl rfl rfl rfl hl.1 rfl (Nat.le_of_ble_eq_true rfl) dL_faded_7 ⟨Nat.le_of_ble_eq_true rfl, Nat.le_of_ble_eq_true rfl⟩ (fun E ce q9 H locs hpx hP hD hS hce hcv hcl => ?_) (fun r u H locs hw hP hD hK hS => ?_)
  · have hpx_1 : E = NSE ∧ True := hpx
    obtain ⟨rfl, h9_2⟩ := hpx_1
    refine ck_catch (own := RL) (name := NSE) hown [] ⟨0, 12, 15, 13⟩ [⟨0, 12, 19, 18⟩] (by rw [htab]; rfl) (fun z hz => nomatch hz) (by decide) (by decide) (hts (.classLink RL 13 NSE) (by decide +kernel)) (hev.2.2.1.1.use rfl) hce hcv hcl ?_
    refine W.eq (g2 := F0 m 15 ls [.ref q9]) rfl ?_
    refine lv_astore (lv' := [(5, .ref q9), (0, .ref h0), (1, .int p0), (2, .int p1), (3, .int p2), (4, .ref ou)]) hx hb dL_faded_15 hl (by decide) rfl (fun ls hl => ?_)
    refine lv_iconst (v := 1) hx hb dL_faded_17 (by decide) ?_
    exact en_i hx hb hr hlocks hP hD hK hS (1, fo) ⟨rfl, rfl⟩ [0] [] rfl rfl rfl (Nat.le_of_ble_eq_true rfl) (Nat.le_of_ble_eq_true rfl) dL_faded_18
  have hw : r = some (.int 0) ∧ (False) := hw
  obtain ⟨rfl, hw_3⟩ := hw
  exact absurd trivial (fun _ => hw_3)

abbrev rm_L_matching : Room := { frames := 8, cells := 1, slots := 6, locals := 130 }
set_option maxHeartbeats 800000 in
set_option maxRecDepth 100000 in
theorem c_L_matching (l : Launch) (dC : Nat → ClassId) (dI : Nat → Nat → Nat) (sa : Nat → Nat) (hlt : l.stackTraces = false) (sz : Nat) (h0 : Nat) (ad : Nat → Nat) (ou : Nat) (co : ClassId) (fo : Nat → Int64) (p0 : Int32) (p1 : Int32) : CT l dC dI sa yL_matching wsL_matching rm_L_matching [.ref h0, .int p0, .int p1, .ref ou] [(h0, .inr (9, [.ref (ad 0), .ref (ad 8), .int 0, .int 0, .ref (ad 9), .int 0, .ref (ad 10), .ref (ad 15), .int 0, .ref (ad 16), .ref (ad 17)])), (ou, .inl (co, 1, .inr (.inl fo)))] [(co, .long)] sz (fun (r : Option Value) (u : Int32 × (Nat → Int64)) => match u with | (k, g) => r = some (.int k) ∧ (k = 1)) (fun (u : Int32 × (Nat → Int64)) => match u with | (k, g) => [(ou, .inl (co, 1, .inr (.inl g)))]) (fun (u : Int32 × (Nat → Int64)) => match u with | (k, g) => []) 1 6 := by
  refine CT.startW (cc := cL_matching) (maxL := 5) (ret := (some .int)) (hh := [(0, 10, 13, 13), (0, 10, 17, 18)]) (by decide) rfl (Nat.le_of_ble_eq_true rfl) ?_
  intro p e s m below meth c ls hst htab hP hK hD hev hS hl
  obtain ⟨hx, hb, hr, hml, hts, hown, hlocks, hin⟩ := hst
  have hown : s.vm.findClass RL = some m.cls := hown
  have hin : meth.name = yL_matching.name := hin
  have hA : ∀ q : Nat, s.heap.size ≤ q → va_A [(h0, .inr (9, [.ref (ad 0), .ref (ad 8), .int 0, .int 0, .ref (ad 9), .int 0, .ref (ad 10), .ref (ad 15), .int 0, .ref (ad 16), .ref (ad 17)])), (ou, .inl (co, 1, .inr (.inl fo)))] s.heap.size q := fun _ h => Or.inr h
  have hl : lv_has ls 5 [(0, .ref h0), (1, .int p0), (2, .int p1), (3, .ref ou)] := hl
  refine lv_aload_n hx hb dL_matching_0 rfl (lv_at hl 3 rfl) ?_
  refine lv_iconst (v := 0) hx hb dL_matching_1 (by decide) ?_
  refine lv_aload_n hx hb dL_matching_2 rfl (lv_at hl 0 rfl) ?_
  refine lv_iload_n hx hb dL_matching_3 rfl (lv_at hl 1 rfl) ?_
  refine lv_iload_n hx hb dL_matching_4 rfl (lv_at hl 2 rfl) ?_
  refine go_VX (wr := [(ou, .inl (co, 1, .inr (.inl fo)))]) ⟨hx, hb, hml, hown, hts⟩ (c_X9_matching l dC dI sa hlt _ h0 ad p0 p1 ) (cwV 2 hts gL_matching_X9_matching rfl rfl rfl (by decide +kernel) ⟨Nat.le_of_ble_eq_true rfl, Nat.le_of_ble_eq_true rfl⟩) hP hD hK hS hA hev [0] [1] [] rfl rfl rfl rfl (by decide) rfl 0 9 rfl rfl rfl rfl hl.1 rfl (Nat.le_of_ble_eq_true rfl) dL_matching_5 ⟨Nat.le_of_ble_eq_true rfl, Nat.le_of_ble_eq_true rfl⟩ (fun E ce q9 H locs hpx hP hD hS hce hcv hcl => ?_) (fun r u H locs hw hP hD hK hS => ?_)
  · have hpx_1 : E = NSE ∧ True := hpx
    obtain ⟨rfl, h9_2⟩ := hpx_1
    refine ck_catch (own := RL) (name := NSE) hown [] ⟨0, 10, 13, 13⟩ [⟨0, 10, 17, 18⟩] (by rw [htab]; rfl) (fun z hz => nomatch hz) (by decide) (by decide) (hts (.classLink RL 13 NSE) (by decide +kernel)) (hev.2.2.1.1.use rfl) hce hcv hcl ?_
    refine W.eq (g2 := F0 m 13 ls [.ref q9]) rfl ?_
    refine lv_astore (lv' := [(4, .ref q9), (0, .ref h0), (1, .int p0), (2, .int p1), (3, .ref ou)]) hx hb dL_matching_13 hl (by decide) rfl (fun ls hl => ?_)
    refine lv_iconst (v := 1) hx hb dL_matching_15 (by decide) ?_
    exact en_i hx hb hr hlocks hP hD hK hS (1, fo) ⟨rfl, rfl⟩ [0] [] rfl rfl rfl (Nat.le_of_ble_eq_true rfl) (Nat.le_of_ble_eq_true rfl) dL_matching_16
  have hw : r = some (.int 0) ∧ (False) := hw
  obtain ⟨rfl, hw_3⟩ := hw
  exact absurd trivial (fun _ => hw_3)

