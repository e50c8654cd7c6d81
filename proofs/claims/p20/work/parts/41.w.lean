noncomputable abbrev rm_wS_charge : Room := { frames := 8, cells := 1, slots := 6, locals := 126 }
set_option maxHeartbeats 800000 in
set_option maxRecDepth 100000 in
theorem wS_charge (l : Launch) (dC : Nat → ClassId) (dI : Nat → Nat → Nat) (sa : Nat → Nat) (g : Nat → Nat) (L : List Nat) (f : Nat → va_E) (x0 ou : Nat) (co : ClassId) (fo : Nat → Int64) (p0 p1 : Int32) (sz : Nat) {post : KPost} {px : String → List Nat → (Nat → va_E) → Prop} (hT : TP g L f [(x0, (0, 9, 0))]) (hM : ∀ sz : Nat, KX l dC dI sa g yX9_charge wsX9_charge rm_X9_chargeS [.ref x0, .int p0, .int p1] L f sz post px 1 6) (hpI : ∀ (r : Option Value) (L : List Nat) (f : Nat → va_E), post r L f → ∃ z : Int32, r = some (.int z)) (hX : ∀ (E : String) (L : List Nat) (f : Nat → va_E), px E L f → E = NSE) : CT l dC dI sa yL_charge wsL_charge rm_wS_charge [.ref x0, .int p0, .int p1, .ref ou] (va_pl L f ++ [(ou, .inl (co, 1, .inr (.inl fo)))]) (tyG g ++ [(co, .long)]) sz (fun r (u : PL × (Nat → Int64)) => WT g u.1.1 u.1.2 ∧ Ext L f u.1.1 u.1.2 ∧ ((∃ v : Int32, r = some (.int 0) ∧ post (some (.int v)) u.1.1 u.1.2 ∧ u.2 0 = v.toInt64) ∨ (r = some (.int 1) ∧ px NSE u.1.1 u.1.2))) (fun u => va_pl u.1.1 u.1.2 ++ [(ou, .inl (co, 1, .inr (.inl u.2)))]) (fun _ => []) 1 6 := by
  refine CT.startW (hh := [(0, 10, 13, 13)]) (cc := cL_charge) (maxL := 5) (ret := (some .int)) (by decide) rfl (Nat.le_of_ble_eq_true rfl) ?_
  intro p e s m below meth c ls hst htab hP hK hD hev hS hl
  obtain ⟨hx, hb, hr, hml, hts, hown, hlocks, hin⟩ := hst
  have hown : s.vm.findClass RL = some m.cls := hown
  have hA : ∀ q : Nat, s.heap.size ≤ q → va_A (va_pl L f ++ [(ou, .inl (co, 1, .inr (.inl fo)))]) s.heap.size q := fun _ h => Or.inr h
  have hl : lv_has ls 5 [(0, .ref x0), (1, .int p0), (2, .int p1), (3, .ref ou)] := hl
  refine lv_aload_n hx hb dL_charge_0 rfl (lv_at hl 3 rfl) ?_
  refine lv_iconst (v := 0) hx hb dL_charge_1 (by decide) ?_
  refine lv_aload_n hx hb dL_charge_2 rfl (lv_at hl 0 rfl) ?_
  refine lv_iload_n hx hb dL_charge_3 rfl (lv_at hl 1 rfl) ?_
  refine lv_iload_n hx hb dL_charge_4 rfl (lv_at hl 2 rfl) ?_
  refine NU_VX ⟨hx, hb, hml, hown, hts⟩ (hM _) (cwV 2 hts gL_charge_X9_charge rfl rfl rfl (by decide +kernel) ⟨Nat.le_of_ble_eq_true rfl, Nat.le_of_ble_eq_true rfl⟩) hP hD (hK.sub [0, 1, 2, 3, 4, 5, 6, 7, 8, 9, 10] rfl) hS hA hev hT 0 9 rfl rfl rfl rfl hl.1 rfl (Nat.le_of_ble_eq_true rfl) dL_charge_5 ⟨Nat.le_of_ble_eq_true rfl, Nat.le_of_ble_eq_true rfl⟩ (fun E ce q9 L9 f9 H locs hpx hT hE hP hD hS hce hcv hcl => ?_) (fun r L8 f8 H locs hw hT hE hP hD hS => ?_)
  · obtain rfl := hX _ _ _ hpx
    refine ck_catch (own := RL) (name := NSE) hown [] ⟨0, 10, 13, 13⟩ [] (by rw [htab]; rfl) (fun z hz => nomatch hz) (by decide) (by decide) (hts (.classLink RL 13 NSE) (by decide +kernel)) (hev.2.2.1.1.use rfl) hce hcv hcl ?_
    refine W.eq (g2 := F0 m 13 ls [.ref q9]) rfl ?_
    refine lv_astore (lv' := [(4, .ref q9), (0, .ref x0), (1, .int p0), (2, .int p1), (3, .ref ou)]) hx hb dL_charge_13 hl (by decide) rfl (fun ls hl => ?_)
    refine lv_iconst (v := 1) hx hb dL_charge_15 (by decide) ?_
    exact M_i hx hb hr hlocks ((L9, f9), fo) hP hD hK hS ⟨hT.1, hE, Or.inr (⟨rfl, hpx⟩)⟩ (Nat.le_of_ble_eq_true rfl) (Nat.le_of_ble_eq_true rfl) dL_charge_16
  obtain ⟨z_1, rfl⟩ := hpI _ _ _ hw
  refine W.eq (g2 := F0 m 8 ls [.int z_1, .int 0, .ref ou]) rfl ?_
  refine lv_i2l (v := (z_1).toInt64) hx hb dL_charge_8 rfl ?_
  refine N_lastX hx hb hK hP hD hS 11 rfl dL_charge_9 (fun fo_2 hfo_2 H locs hP hD hS => ?_)
  refine lv_goto (tgt := 17) hx hb dL_charge_10 (by decide) ?_
  refine lv_iconst (v := 0) hx hb dL_charge_17 (by decide) ?_
  exact M_i hx hb hr hlocks ((L8, f8), fo_2) hP hD hK hS ⟨hT.1, hE, Or.inl (⟨z_1, rfl, hw, hfo_2⟩)⟩ (Nat.le_of_ble_eq_true rfl) (Nat.le_of_ble_eq_true rfl) dL_charge_18

noncomputable abbrev rm_wS_feed : Room := { frames := 8, cells := 2, slots := 12, locals := 126 }
set_option maxHeartbeats 800000 in
set_option maxRecDepth 100000 in
theorem wS_feed (l : Launch) (dC : Nat → ClassId) (dI : Nat → Nat → Nat) (sa : Nat → Nat) (g : Nat → Nat) (L : List Nat) (f : Nat → va_E) (x0 ou : Nat) (co : ClassId) (fo : Nat → Int64) (p0 p1 : Int32) (sz : Nat) {post : KPost} {px : String → List Nat → (Nat → va_E) → Prop} (hT : TP g L f [(x0, (0, 9, 0))]) (hM : ∀ sz : Nat, KX l dC dI sa g yX9_feed wsX9_feed rm_X9_feedS [.ref x0, .int p0, .int p1] L f sz post px 2 12) (hpI : ∀ (r : Option Value) (L : List Nat) (f : Nat → va_E), post r L f → ∃ z : Int32, r = some (.int z)) (hX : ∀ (E : String) (L : List Nat) (f : Nat → va_E), px E L f → E = NSE ∨ E = IAE) : CT l dC dI sa yL_feed wsL_feed rm_wS_feed [.ref x0, .int p0, .int p1, .ref ou] (va_pl L f ++ [(ou, .inl (co, 1, .inr (.inl fo)))]) (tyG g ++ [(co, .long)]) sz (fun r (u : PL × (Nat → Int64)) => WT g u.1.1 u.1.2 ∧ Ext L f u.1.1 u.1.2 ∧ ((∃ v : Int32, r = some (.int 0) ∧ post (some (.int v)) u.1.1 u.1.2 ∧ u.2 0 = v.toInt64) ∨ (r = some (.int 1) ∧ px NSE u.1.1 u.1.2) ∨ (r = some (.int 2) ∧ px IAE u.1.1 u.1.2))) (fun u => va_pl u.1.1 u.1.2 ++ [(ou, .inl (co, 1, .inr (.inl u.2)))]) (fun _ => []) 2 12 := by
  refine CT.startW (hh := [(0, 10, 13, 13), (0, 10, 17, 18)]) (cc := cL_feed) (maxL := 5) (ret := (some .int)) (by decide) rfl (Nat.le_of_ble_eq_true rfl) ?_
  intro p e s m below meth c ls hst htab hP hK hD hev hS hl
  obtain ⟨hx, hb, hr, hml, hts, hown, hlocks, hin⟩ := hst
  have hown : s.vm.findClass RL = some m.cls := hown
  have hA : ∀ q : Nat, s.heap.size ≤ q → va_A (va_pl L f ++ [(ou, .inl (co, 1, .inr (.inl fo)))]) s.heap.size q := fun _ h => Or.inr h
  have hl : lv_has ls 5 [(0, .ref x0), (1, .int p0), (2, .int p1), (3, .ref ou)] := hl
  refine lv_aload_n hx hb dL_feed_0 rfl (lv_at hl 3 rfl) ?_
  refine lv_iconst (v := 0) hx hb dL_feed_1 (by decide) ?_
  refine lv_aload_n hx hb dL_feed_2 rfl (lv_at hl 0 rfl) ?_
  refine lv_iload_n hx hb dL_feed_3 rfl (lv_at hl 1 rfl) ?_
  refine lv_iload_n hx hb dL_feed_4 rfl (lv_at hl 2 rfl) ?_
  refine NU_VX ⟨hx, hb, hml, hown, hts⟩ (hM _) (cwV 2 hts gL_feed_X9_feed rfl rfl rfl (by decide +kernel) ⟨Nat.le_of_ble_eq_true rfl, Nat.le_of_ble_eq_true rfl⟩) hP hD (hK.sub [0, 1, 2, 3, 4, 5, 6, 7, 8, 9, 10] rfl) hS hA hev hT 0 9 rfl rfl rfl rfl hl.1 rfl (Nat.le_of_ble_eq_true rfl) dL_feed_5 ⟨Nat.le_of_ble_eq_true rfl, Nat.le_of_ble_eq_true rfl⟩ (fun E ce q9 L9 f9 H locs hpx hT hE hP hD hS hce hcv hcl => ?_) (fun r L8 f8 H locs hw hT hE hP hD hS => ?_)
  · rcases hX _ _ _ hpx with rfl | rfl
    · refine ck_catch (own := RL) (name := NSE) hown [] ⟨0, 10, 13, 13⟩ [⟨0, 10, 17, 18⟩] (by rw [htab]; rfl) (fun z hz => nomatch hz) (by decide) (by decide) (hts (.classLink RL 13 NSE) (by decide +kernel)) (hev.2.2.1.1.use rfl) hce hcv hcl ?_
      refine W.eq (g2 := F0 m 13 ls [.ref q9]) rfl ?_
      refine lv_astore (lv' := [(4, .ref q9), (0, .ref x0), (1, .int p0), (2, .int p1), (3, .ref ou)]) hx hb dL_feed_13 hl (by decide) rfl (fun ls hl => ?_)
      refine lv_iconst (v := 1) hx hb dL_feed_15 (by decide) ?_
      exact M_i hx hb hr hlocks ((L9, f9), fo) hP hD hK hS ⟨hT.1, hE, Or.inr (Or.inl (⟨rfl, hpx⟩))⟩ (Nat.le_of_ble_eq_true rfl) (Nat.le_of_ble_eq_true rfl) dL_feed_16
    · refine ck_catch (own := RL) (name := IAE) hown [⟨0, 10, 13, 13⟩] ⟨0, 10, 17, 18⟩ [] (by rw [htab]; rfl) (fun z hz => by rcases List.mem_singleton.mp hz with rfl; exact Or.inr ⟨by decide, NSE, hts (.classLink RL 13 NSE) (by decide +kernel), hev.2.2.1.2.2⟩) (by decide) (by decide) (hts (.classLink RL 18 IAE) (by decide +kernel)) (hev.2.2.1.2.1.use rfl) hce hcv hcl ?_
      refine W.eq (g2 := F0 m 17 ls [.ref q9]) rfl ?_
      refine lv_astore (lv' := [(4, .ref q9), (0, .ref x0), (1, .int p0), (2, .int p1), (3, .ref ou)]) hx hb dL_feed_17 hl (by decide) rfl (fun ls hl => ?_)
      refine lv_iconst (v := 2) hx hb dL_feed_19 (by decide) ?_
      exact M_i hx hb hr hlocks ((L9, f9), fo) hP hD hK hS ⟨hT.1, hE, Or.inr (Or.inr (⟨rfl, hpx⟩))⟩ (Nat.le_of_ble_eq_true rfl) (Nat.le_of_ble_eq_true rfl) dL_feed_20
  obtain ⟨z_1, rfl⟩ := hpI _ _ _ hw
  refine W.eq (g2 := F0 m 8 ls [.int z_1, .int 0, .ref ou]) rfl ?_
  refine lv_i2l (v := (z_1).toInt64) hx hb dL_feed_8 rfl ?_
  refine N_lastX hx hb hK hP hD hS 11 rfl dL_feed_9 (fun fo_2 hfo_2 H locs hP hD hS => ?_)
  refine lv_goto (tgt := 21) hx hb dL_feed_10 (by decide) ?_
  refine lv_iconst (v := 0) hx hb dL_feed_21 (by decide) ?_
  exact M_i hx hb hr hlocks ((L8, f8), fo_2) hP hD hK hS ⟨hT.1, hE, Or.inl (⟨z_1, rfl, hw, hfo_2⟩)⟩ (Nat.le_of_ble_eq_true rfl) (Nat.le_of_ble_eq_true rfl) dL_feed_22

noncomputable abbrev rm_wS_lime : Room := { frames := 8, cells := 1, slots := 6, locals := 125 }
set_option maxHeartbeats 800000 in
set_option maxRecDepth 100000 in
theorem wS_lime (l : Launch) (dC : Nat → ClassId) (dI : Nat → Nat → Nat) (sa : Nat → Nat) (g : Nat → Nat) (L : List Nat) (f : Nat → va_E) (x0 ou : Nat) (co : ClassId) (fo : Nat → Int64) (p0 : Int32) (sz : Nat) {post : KPost} {px : String → List Nat → (Nat → va_E) → Prop} (hT : TP g L f [(x0, (0, 9, 0))]) (hM : ∀ sz : Nat, KX l dC dI sa g yX9_lime wsX9_lime rm_X9_limeS [.ref x0, .int p0] L f sz post px 1 6) (hpI : ∀ (r : Option Value) (L : List Nat) (f : Nat → va_E), post r L f → ∃ z : Int32, r = some (.int z)) (hX : ∀ (E : String) (L : List Nat) (f : Nat → va_E), px E L f → E = NSE) : CT l dC dI sa yL_lime wsL_lime rm_wS_lime [.ref x0, .int p0, .ref ou] (va_pl L f ++ [(ou, .inl (co, 1, .inr (.inl fo)))]) (tyG g ++ [(co, .long)]) sz (fun r (u : PL × (Nat → Int64)) => WT g u.1.1 u.1.2 ∧ Ext L f u.1.1 u.1.2 ∧ ((∃ v : Int32, r = some (.int 0) ∧ post (some (.int v)) u.1.1 u.1.2 ∧ u.2 0 = v.toInt64) ∨ (r = some (.int 1) ∧ px NSE u.1.1 u.1.2))) (fun u => va_pl u.1.1 u.1.2 ++ [(ou, .inl (co, 1, .inr (.inl u.2)))]) (fun _ => []) 1 6 := by
  refine CT.startW (hh := [(0, 9, 12, 13)]) (cc := cL_lime) (maxL := 4) (ret := (some .int)) (by decide) rfl (Nat.le_of_ble_eq_true rfl) ?_
  intro p e s m below meth c ls hst htab hP hK hD hev hS hl
  obtain ⟨hx, hb, hr, hml, hts, hown, hlocks, hin⟩ := hst
  have hown : s.vm.findClass RL = some m.cls := hown
  have hA : ∀ q : Nat, s.heap.size ≤ q → va_A (va_pl L f ++ [(ou, .inl (co, 1, .inr (.inl fo)))]) s.heap.size q := fun _ h => Or.inr h
  have hl : lv_has ls 4 [(0, .ref x0), (1, .int p0), (2, .ref ou)] := hl
  refine lv_aload_n hx hb dL_lime_0 rfl (lv_at hl 2 rfl) ?_
  refine lv_iconst (v := 0) hx hb dL_lime_1 (by decide) ?_
  refine lv_aload_n hx hb dL_lime_2 rfl (lv_at hl 0 rfl) ?_
  refine lv_iload_n hx hb dL_lime_3 rfl (lv_at hl 1 rfl) ?_
  refine NU_VX ⟨hx, hb, hml, hown, hts⟩ (hM _) (cwV 1 hts gL_lime_X9_lime rfl rfl rfl (by decide +kernel) ⟨Nat.le_of_ble_eq_true rfl, Nat.le_of_ble_eq_true rfl⟩) hP hD (hK.sub [0, 1, 2, 3, 4, 5, 6, 7, 8, 9, 10] rfl) hS hA hev hT 0 9 rfl rfl rfl rfl hl.1 rfl (Nat.le_of_ble_eq_true rfl) dL_lime_4 ⟨Nat.le_of_ble_eq_true rfl, Nat.le_of_ble_eq_true rfl⟩ (fun E ce q9 L9 f9 H locs hpx hT hE hP hD hS hce hcv hcl => ?_) (fun r L8 f8 H locs hw hT hE hP hD hS => ?_)
  · obtain rfl := hX _ _ _ hpx
    refine ck_catch (own := RL) (name := NSE) hown [] ⟨0, 9, 12, 13⟩ [] (by rw [htab]; rfl) (fun z hz => nomatch hz) (by decide) (by decide) (hts (.classLink RL 13 NSE) (by decide +kernel)) (hev.2.2.1.1.use rfl) hce hcv hcl ?_
    refine W.eq (g2 := F0 m 12 ls [.ref q9]) rfl ?_
    refine lv_astore_n (lv' := [(3, .ref q9), (0, .ref x0), (1, .int p0), (2, .ref ou)]) hx hb dL_lime_12 rfl hl (by decide) rfl (fun ls hl => ?_)
    refine lv_iconst (v := 1) hx hb dL_lime_13 (by decide) ?_
    exact M_i hx hb hr hlocks ((L9, f9), fo) hP hD hK hS ⟨hT.1, hE, Or.inr (⟨rfl, hpx⟩)⟩ (Nat.le_of_ble_eq_true rfl) (Nat.le_of_ble_eq_true rfl) dL_lime_14
  obtain ⟨z_1, rfl⟩ := hpI _ _ _ hw
  refine W.eq (g2 := F0 m 7 ls [.int z_1, .int 0, .ref ou]) rfl ?_
  refine lv_i2l (v := (z_1).toInt64) hx hb dL_lime_7 rfl ?_
  refine N_lastX hx hb hK hP hD hS 11 rfl dL_lime_8 (fun fo_2 hfo_2 H locs hP hD hS => ?_)
  refine lv_goto (tgt := 15) hx hb dL_lime_9 (by decide) ?_
  refine lv_iconst (v := 0) hx hb dL_lime_15 (by decide) ?_
  exact M_i hx hb hr hlocks ((L8, f8), fo_2) hP hD hK hS ⟨hT.1, hE, Or.inl (⟨z_1, rfl, hw, hfo_2⟩)⟩ (Nat.le_of_ble_eq_true rfl) (Nat.le_of_ble_eq_true rfl) dL_lime_16

noncomputable abbrev rm_wS_hours : Room := { frames := 8, cells := 1, slots := 6, locals := 123 }
set_option maxHeartbeats 800000 in
set_option maxRecDepth 100000 in
theorem wS_hours (l : Launch) (dC : Nat → ClassId) (dI : Nat → Nat → Nat) (sa : Nat → Nat) (g : Nat → Nat) (L : List Nat) (f : Nat → va_E) (x0 ou : Nat) (co : ClassId) (fo : Nat → Int64) (p0 : Int32) (sz : Nat) {post : KPost} {px : String → List Nat → (Nat → va_E) → Prop} (hT : TP g L f [(x0, (0, 9, 0))]) (hM : ∀ sz : Nat, KX l dC dI sa g yX9_hours wsX9_hours rm_X9_hoursS [.ref x0, .int p0] L f sz post px 1 6) (hpI : ∀ (r : Option Value) (L : List Nat) (f : Nat → va_E), post r L f → ∃ z : Int32, r = some (.int z)) (hX : ∀ (E : String) (L : List Nat) (f : Nat → va_E), px E L f → E = IAE) : CT l dC dI sa yL_hours wsL_hours rm_wS_hours [.ref x0, .int p0, .ref ou] (va_pl L f ++ [(ou, .inl (co, 1, .inr (.inl fo)))]) (tyG g ++ [(co, .long)]) sz (fun r (u : PL × (Nat → Int64)) => WT g u.1.1 u.1.2 ∧ Ext L f u.1.1 u.1.2 ∧ ((∃ v : Int32, r = some (.int 0) ∧ post (some (.int v)) u.1.1 u.1.2 ∧ u.2 0 = v.toInt64) ∨ (r = some (.int 1) ∧ px IAE u.1.1 u.1.2))) (fun u => va_pl u.1.1 u.1.2 ++ [(ou, .inl (co, 1, .inr (.inl u.2)))]) (fun _ => []) 1 6 := by
  refine CT.startW (hh := [(0, 9, 12, 18)]) (cc := cL_hours) (maxL := 4) (ret := (some .int)) (by decide) rfl (Nat.le_of_ble_eq_true rfl) ?_
  intro p e s m below meth c ls hst htab hP hK hD hev hS hl
  obtain ⟨hx, hb, hr, hml, hts, hown, hlocks, hin⟩ := hst
  have hown : s.vm.findClass RL = some m.cls := hown
  have hA : ∀ q : Nat, s.heap.size ≤ q → va_A (va_pl L f ++ [(ou, .inl (co, 1, .inr (.inl fo)))]) s.heap.size q := fun _ h => Or.inr h
  have hl : lv_has ls 4 [(0, .ref x0), (1, .int p0), (2, .ref ou)] := hl
  refine lv_aload_n hx hb dL_hours_0 rfl (lv_at hl 2 rfl) ?_
  refine lv_iconst (v := 0) hx hb dL_hours_1 (by decide) ?_
  refine lv_aload_n hx hb dL_hours_2 rfl (lv_at hl 0 rfl) ?_
  refine lv_iload_n hx hb dL_hours_3 rfl (lv_at hl 1 rfl) ?_
  refine NU_VX ⟨hx, hb, hml, hown, hts⟩ (hM _) (cwV 1 hts gL_hours_X9_hours rfl rfl rfl (by decide +kernel) ⟨Nat.le_of_ble_eq_true rfl, Nat.le_of_ble_eq_true rfl⟩) hP hD (hK.sub [0, 1, 2, 3, 4, 5, 6, 7, 8, 9, 10] rfl) hS hA hev hT 0 9 rfl rfl rfl rfl hl.1 rfl (Nat.le_of_ble_eq_true rfl) dL_hours_4 ⟨Nat.le_of_ble_eq_true rfl, Nat.le_of_ble_eq_true rfl⟩ (fun E ce q9 L9 f9 H locs hpx hT hE hP hD hS hce hcv hcl => ?_) (fun r L8 f8 H locs hw hT hE hP hD hS => ?_)
  · obtain rfl := hX _ _ _ hpx
    refine ck_catch (own := RL) (name := IAE) hown [] ⟨0, 9, 12, 18⟩ [] (by rw [htab]; rfl) (fun z hz => nomatch hz) (by decide) (by decide) (hts (.classLink RL 18 IAE) (by decide +kernel)) (hev.2.2.1.2.1.use rfl) hce hcv hcl ?_
    refine W.eq (g2 := F0 m 12 ls [.ref q9]) rfl ?_
    refine lv_astore_n (lv' := [(3, .ref q9), (0, .ref x0), (1, .int p0), (2, .ref ou)]) hx hb dL_hours_12 rfl hl (by decide) rfl (fun ls hl => ?_)
    refine lv_iconst (v := 1) hx hb dL_hours_13 (by decide) ?_
    exact M_i hx hb hr hlocks ((L9, f9), fo) hP hD hK hS ⟨hT.1, hE, Or.inr (⟨rfl, hpx⟩)⟩ (Nat.le_of_ble_eq_true rfl) (Nat.le_of_ble_eq_true rfl) dL_hours_14
  obtain ⟨z_1, rfl⟩ := hpI _ _ _ hw
  refine W.eq (g2 := F0 m 7 ls [.int z_1, .int 0, .ref ou]) rfl ?_
  refine lv_i2l (v := (z_1).toInt64) hx hb dL_hours_7 rfl ?_
  refine N_lastX hx hb hK hP hD hS 11 rfl dL_hours_8 (fun fo_2 hfo_2 H locs hP hD hS => ?_)
  refine lv_goto (tgt := 15) hx hb dL_hours_9 (by decide) ?_
  refine lv_iconst (v := 0) hx hb dL_hours_15 (by decide) ?_
  exact M_i hx hb hr hlocks ((L8, f8), fo_2) hP hD hK hS ⟨hT.1, hE, Or.inl (⟨z_1, rfl, hw, hfo_2⟩)⟩ (Nat.le_of_ble_eq_true rfl) (Nat.le_of_ble_eq_true rfl) dL_hours_16

noncomputable abbrev rm_wS_dip : Room := { frames := 8, cells := 3, slots := 18, locals := 130 }
set_option maxHeartbeats 800000 in
set_option maxRecDepth 100000 in
theorem wS_dip (l : Launch) (dC : Nat → ClassId) (dI : Nat → Nat → Nat) (sa : Nat → Nat) (g : Nat → Nat) (L : List Nat) (f : Nat → va_E) (x0 ou : Nat) (co : ClassId) (fo : Nat → Int64) (p0 p1 p2 : Int32) (sz : Nat) {post : KPost} {px : String → List Nat → (Nat → va_E) → Prop} (hT : TP g L f [(x0, (0, 9, 0))]) (hM : ∀ sz : Nat, KX l dC dI sa g yX9_dip wsX9_dip rm_X9_dipS [.ref x0, .int p0, .int p1, .int p2] L f sz post px 3 18) (hpI : ∀ (r : Option Value) (L : List Nat) (f : Nat → va_E), post r L f → ∃ z : Int32, r = some (.int z)) (hX : ∀ (E : String) (L : List Nat) (f : Nat → va_E), px E L f → E = NSE ∨ E = IAE) : CT l dC dI sa yL_dip wsL_dip rm_wS_dip [.ref x0, .int p0, .int p1, .int p2, .ref ou] (va_pl L f ++ [(ou, .inl (co, 1, .inr (.inl fo)))]) (tyG g ++ [(co, .long)]) sz (fun r (u : PL × (Nat → Int64)) => WT g u.1.1 u.1.2 ∧ Ext L f u.1.1 u.1.2 ∧ ((∃ v : Int32, r = some (.int 0) ∧ post (some (.int v)) u.1.1 u.1.2 ∧ u.2 0 = v.toInt64) ∨ (r = some (.int 1) ∧ px NSE u.1.1 u.1.2) ∨ (r = some (.int 2) ∧ px IAE u.1.1 u.1.2))) (fun u => va_pl u.1.1 u.1.2 ++ [(ou, .inl (co, 1, .inr (.inl u.2)))]) (fun _ => []) 3 18 := by
  refine CT.startW (hh := [(0, 12, 15, 13), (0, 12, 19, 18)]) (cc := cL_dip) (maxL := 6) (ret := (some .int)) (by decide) rfl (Nat.le_of_ble_eq_true rfl) ?_
  intro p e s m below meth c ls hst htab hP hK hD hev hS hl
  obtain ⟨hx, hb, hr, hml, hts, hown, hlocks, hin⟩ := hst
  have hown : s.vm.findClass RL = some m.cls := hown
  have hA : ∀ q : Nat, s.heap.size ≤ q → va_A (va_pl L f ++ [(ou, .inl (co, 1, .inr (.inl fo)))]) s.heap.size q := fun _ h => Or.inr h
  have hl : lv_has ls 6 [(0, .ref x0), (1, .int p0), (2, .int p1), (3, .int p2), (4, .ref ou)] := hl
  refine lv_aload hx hb dL_dip_0 (lv_at hl 4 rfl) ?_
  refine lv_iconst (v := 0) hx hb dL_dip_2 (by decide) ?_
  refine lv_aload_n hx hb dL_dip_3 rfl (lv_at hl 0 rfl) ?_
  refine lv_iload_n hx hb dL_dip_4 rfl (lv_at hl 1 rfl) ?_
  refine lv_iload_n hx hb dL_dip_5 rfl (lv_at hl 2 rfl) ?_
  refine lv_iload_n hx hb dL_dip_6 rfl (lv_at hl 3 rfl) ?_
  refine NU_VX ⟨hx, hb, hml, hown, hts⟩ (hM _) (cwV 3 hts gL_dip_X9_dip rfl rfl rfl (by decide +kernel) ⟨Nat.le_of_ble_eq_true rfl, Nat.le_of_ble_eq_true rfl⟩) hP hD (hK.sub [0, 1, 2, 3, 4, 5, 6, 7, 8, 9, 10] rfl) hS hA hev hT 0 9 rfl rfl rfl rfl hl.1 rfl (Nat.le_of_ble_eq_true rfl) dL_dip_7 ⟨Nat.le_of_ble_eq_true rfl, Nat.le_of_ble_eq_true rfl⟩ (fun E ce q9 L9 f9 H locs hpx hT hE hP hD hS hce hcv hcl => ?_) (fun r L8 f8 H locs hw hT hE hP hD hS => ?_)
  · rcases hX _ _ _ hpx with rfl | rfl
    · refine ck_catch (own := RL) (name := NSE) hown [] ⟨0, 12, 15, 13⟩ [⟨0, 12, 19, 18⟩] (by rw [htab]; rfl) (fun z hz => nomatch hz) (by decide) (by decide) (hts (.classLink RL 13 NSE) (by decide +kernel)) (hev.2.2.1.1.use rfl) hce hcv hcl ?_
      refine W.eq (g2 := F0 m 15 ls [.ref q9]) rfl ?_
      refine lv_astore (lv' := [(5, .ref q9), (0, .ref x0), (1, .int p0), (2, .int p1), (3, .int p2), (4, .ref ou)]) hx hb dL_dip_15 hl (by decide) rfl (fun ls hl => ?_)
      refine lv_iconst (v := 1) hx hb dL_dip_17 (by decide) ?_
      exact M_i hx hb hr hlocks ((L9, f9), fo) hP hD hK hS ⟨hT.1, hE, Or.inr (Or.inl (⟨rfl, hpx⟩))⟩ (Nat.le_of_ble_eq_true rfl) (Nat.le_of_ble_eq_true rfl) dL_dip_18
    · refine ck_catch (own := RL) (name := IAE) hown [⟨0, 12, 15, 13⟩] ⟨0, 12, 19, 18⟩ [] (by rw [htab]; rfl) (fun z hz => by rcases List.mem_singleton.mp hz with rfl; exact Or.inr ⟨by decide, NSE, hts (.classLink RL 13 NSE) (by decide +kernel), hev.2.2.1.2.2⟩) (by decide) (by decide) (hts (.classLink RL 18 IAE) (by decide +kernel)) (hev.2.2.1.2.1.use rfl) hce hcv hcl ?_
      refine W.eq (g2 := F0 m 19 ls [.ref q9]) rfl ?_
      refine lv_astore (lv' := [(5, .ref q9), (0, .ref x0), (1, .int p0), (2, .int p1), (3, .int p2), (4, .ref ou)]) hx hb dL_dip_19 hl (by decide) rfl (fun ls hl => ?_)
      refine lv_iconst (v := 2) hx hb dL_dip_21 (by decide) ?_
      exact M_i hx hb hr hlocks ((L9, f9), fo) hP hD hK hS ⟨hT.1, hE, Or.inr (Or.inr (⟨rfl, hpx⟩))⟩ (Nat.le_of_ble_eq_true rfl) (Nat.le_of_ble_eq_true rfl) dL_dip_22
  obtain ⟨z_1, rfl⟩ := hpI _ _ _ hw
  refine W.eq (g2 := F0 m 10 ls [.int z_1, .int 0, .ref ou]) rfl ?_
  refine lv_i2l (v := (z_1).toInt64) hx hb dL_dip_10 rfl ?_
  refine N_lastX hx hb hK hP hD hS 11 rfl dL_dip_11 (fun fo_2 hfo_2 H locs hP hD hS => ?_)
  refine lv_goto (tgt := 23) hx hb dL_dip_12 (by decide) ?_
  refine lv_iconst (v := 0) hx hb dL_dip_23 (by decide) ?_
  exact M_i hx hb hr hlocks ((L8, f8), fo_2) hP hD hK hS ⟨hT.1, hE, Or.inl (⟨z_1, rfl, hw, hfo_2⟩)⟩ (Nat.le_of_ble_eq_true rfl) (Nat.le_of_ble_eq_true rfl) dL_dip_24

noncomputable abbrev rm_wS_treat : Room := { frames := 8, cells := 2, slots := 12, locals := 127 }
set_option maxHeartbeats 800000 in
set_option maxRecDepth 100000 in
theorem wS_treat (l : Launch) (dC : Nat → ClassId) (dI : Nat → Nat → Nat) (sa : Nat → Nat) (g : Nat → Nat) (L : List Nat) (f : Nat → va_E) (x0 ou : Nat) (co : ClassId) (fo : Nat → Int64) (p0 p1 : Int32) (sz : Nat) {post : KPost} {px : String → List Nat → (Nat → va_E) → Prop} (hT : TP g L f [(x0, (0, 9, 0))]) (hM : ∀ sz : Nat, KX l dC dI sa g yX9_treat wsX9_treat rm_X9_treatS [.ref x0, .int p0, .int p1] L f sz post px 2 12) (hpI : ∀ (r : Option Value) (L : List Nat) (f : Nat → va_E), post r L f → ∃ z : Int32, r = some (.int z)) (hX : ∀ (E : String) (L : List Nat) (f : Nat → va_E), px E L f → E = NSE ∨ E = IAE) : CT l dC dI sa yL_treat wsL_treat rm_wS_treat [.ref x0, .int p0, .int p1, .ref ou] (va_pl L f ++ [(ou, .inl (co, 1, .inr (.inl fo)))]) (tyG g ++ [(co, .long)]) sz (fun r (u : PL × (Nat → Int64)) => WT g u.1.1 u.1.2 ∧ Ext L f u.1.1 u.1.2 ∧ ((∃ v : Int32, r = some (.int 0) ∧ post (some (.int v)) u.1.1 u.1.2 ∧ u.2 0 = v.toInt64) ∨ (r = some (.int 1) ∧ px NSE u.1.1 u.1.2) ∨ (r = some (.int 2) ∧ px IAE u.1.1 u.1.2))) (fun u => va_pl u.1.1 u.1.2 ++ [(ou, .inl (co, 1, .inr (.inl u.2)))]) (fun _ => []) 2 12 := by
  refine CT.startW (hh := [(0, 10, 13, 13), (0, 10, 17, 18)]) (cc := cL_treat) (maxL := 5) (ret := (some .int)) (by decide) rfl (Nat.le_of_ble_eq_true rfl) ?_
  intro p e s m below meth c ls hst htab hP hK hD hev hS hl
  obtain ⟨hx, hb, hr, hml, hts, hown, hlocks, hin⟩ := hst
  have hown : s.vm.findClass RL = some m.cls := hown
  have hA : ∀ q : Nat, s.heap.size ≤ q → va_A (va_pl L f ++ [(ou, .inl (co, 1, .inr (.inl fo)))]) s.heap.size q := fun _ h => Or.inr h
  have hl : lv_has ls 5 [(0, .ref x0), (1, .int p0), (2, .int p1), (3, .ref ou)] := hl
  refine lv_aload_n hx hb dL_treat_0 rfl (lv_at hl 3 rfl) ?_
  refine lv_iconst (v := 0) hx hb dL_treat_1 (by decide) ?_
  refine lv_aload_n hx hb dL_treat_2 rfl (lv_at hl 0 rfl) ?_
  refine lv_iload_n hx hb dL_treat_3 rfl (lv_at hl 1 rfl) ?_
  refine lv_iload_n hx hb dL_treat_4 rfl (lv_at hl 2 rfl) ?_
  refine NU_VX ⟨hx, hb, hml, hown, hts⟩ (hM _) (cwV 2 hts gL_treat_X9_treat rfl rfl rfl (by decide +kernel) ⟨Nat.le_of_ble_eq_true rfl, Nat.le_of_ble_eq_true rfl⟩) hP hD (hK.sub [0, 1, 2, 3, 4, 5, 6, 7, 8, 9, 10] rfl) hS hA hev hT 0 9 rfl rfl rfl rfl hl.1 rfl (Nat.le_of_ble_eq_true rfl) dL_treat_5 ⟨Nat.le_of_ble_eq_true rfl, Nat.le_of_ble_eq_true rfl⟩ (fun E ce q9 L9 f9 H locs hpx hT hE hP hD hS hce hcv hcl => ?_) (fun r L8 f8 H locs hw hT hE hP hD hS => ?_)
  · rcases hX _ _ _ hpx with rfl | rfl
    · refine ck_catch (own := RL) (name := NSE) hown [] ⟨0, 10, 13, 13⟩ [⟨0, 10, 17, 18⟩] (by rw [htab]; rfl) (fun z hz => nomatch hz) (by decide) (by decide) (hts (.classLink RL 13 NSE) (by decide +kernel)) (hev.2.2.1.1.use rfl) hce hcv hcl ?_
      refine W.eq (g2 := F0 m 13 ls [.ref q9]) rfl ?_
      refine lv_astore (lv' := [(4, .ref q9), (0, .ref x0), (1, .int p0), (2, .int p1), (3, .ref ou)]) hx hb dL_treat_13 hl (by decide) rfl (fun ls hl => ?_)
      refine lv_iconst (v := 1) hx hb dL_treat_15 (by decide) ?_
      exact M_i hx hb hr hlocks ((L9, f9), fo) hP hD hK hS ⟨hT.1, hE, Or.inr (Or.inl (⟨rfl, hpx⟩))⟩ (Nat.le_of_ble_eq_true rfl) (Nat.le_of_ble_eq_true rfl) dL_treat_16
    · refine ck_catch (own := RL) (name := IAE) hown [⟨0, 10, 13, 13⟩] ⟨0, 10, 17, 18⟩ [] (by rw [htab]; rfl) (fun z hz => by rcases List.mem_singleton.mp hz with rfl; exact Or.inr ⟨by decide, NSE, hts (.classLink RL 13 NSE) (by decide +kernel), hev.2.2.1.2.2⟩) (by decide) (by decide) (hts (.classLink RL 18 IAE) (by decide +kernel)) (hev.2.2.1.2.1.use rfl) hce hcv hcl ?_
      refine W.eq (g2 := F0 m 17 ls [.ref q9]) rfl ?_
      refine lv_astore (lv' := [(4, .ref q9), (0, .ref x0), (1, .int p0), (2, .int p1), (3, .ref ou)]) hx hb dL_treat_17 hl (by decide) rfl (fun ls hl => ?_)
      refine lv_iconst (v := 2) hx hb dL_treat_19 (by decide) ?_
      exact M_i hx hb hr hlocks ((L9, f9), fo) hP hD hK hS ⟨hT.1, hE, Or.inr (Or.inr (⟨rfl, hpx⟩))⟩ (Nat.le_of_ble_eq_true rfl) (Nat.le_of_ble_eq_true rfl) dL_treat_20
  obtain ⟨z_1, rfl⟩ := hpI _ _ _ hw
  refine W.eq (g2 := F0 m 8 ls [.int z_1, .int 0, .ref ou]) rfl ?_
  refine lv_i2l (v := (z_1).toInt64) hx hb dL_treat_8 rfl ?_
  refine N_lastX hx hb hK hP hD hS 11 rfl dL_treat_9 (fun fo_2 hfo_2 H locs hP hD hS => ?_)
  refine lv_goto (tgt := 21) hx hb dL_treat_10 (by decide) ?_
  refine lv_iconst (v := 0) hx hb dL_treat_21 (by decide) ?_
  exact M_i hx hb hr hlocks ((L8, f8), fo_2) hP hD hK hS ⟨hT.1, hE, Or.inl (⟨z_1, rfl, hw, hfo_2⟩)⟩ (Nat.le_of_ble_eq_true rfl) (Nat.le_of_ble_eq_true rfl) dL_treat_22

noncomputable abbrev rm_wS_recipe : Room := { frames := 82, cells := 303, slots := 2415, locals := 2445 }
set_option maxHeartbeats 800000 in
set_option maxRecDepth 100000 in
theorem wS_recipe (l : Launch) (dC : Nat → ClassId) (dI : Nat → Nat → Nat) (sa : Nat → Nat) (g : Nat → Nat) (L : List Nat) (f : Nat → va_E) (x0 ou : Nat) (co : ClassId) (fo : Nat → Int64) (p0 p1 : Int32) (sz : Nat) {post : KPost} {px : String → List Nat → (Nat → va_E) → Prop} (hT : TP g L f [(x0, (0, 9, 0))]) (hM : ∀ sz : Nat, KX l dC dI sa g yX9_recipe wsX9_recipe rm_X9_recipeT [.ref x0, .int p0, .int p1] L f sz post px 303 2415) (hpI : ∀ (r : Option Value) (L : List Nat) (f : Nat → va_E), post r L f → ∃ z : Int32, r = some (.int z)) (hX : ∀ (E : String) (L : List Nat) (f : Nat → va_E), px E L f → E = IAE) : CT l dC dI sa yL_recipe wsL_recipe rm_wS_recipe [.ref x0, .int p0, .int p1, .ref ou] (va_pl L f ++ [(ou, .inl (co, 1, .inr (.inl fo)))]) (tyG g ++ [(co, .long)]) sz (fun r (u : PL × (Nat → Int64)) => WT g u.1.1 u.1.2 ∧ Ext L f u.1.1 u.1.2 ∧ ((∃ v : Int32, r = some (.int 0) ∧ post (some (.int v)) u.1.1 u.1.2 ∧ u.2 0 = v.toInt64) ∨ (r = some (.int 1) ∧ px IAE u.1.1 u.1.2))) (fun u => va_pl u.1.1 u.1.2 ++ [(ou, .inl (co, 1, .inr (.inl u.2)))]) (fun _ => []) 303 2415 := by
  refine CT.startW (hh := [(0, 10, 13, 18)]) (cc := cL_recipe) (maxL := 5) (ret := (some .int)) (by decide) rfl (Nat.le_of_ble_eq_true rfl) ?_
  intro p e s m below meth c ls hst htab hP hK hD hev hS hl
  obtain ⟨hx, hb, hr, hml, hts, hown, hlocks, hin⟩ := hst
  have hown : s.vm.findClass RL = some m.cls := hown
  have hA : ∀ q : Nat, s.heap.size ≤ q → va_A (va_pl L f ++ [(ou, .inl (co, 1, .inr (.inl fo)))]) s.heap.size q := fun _ h => Or.inr h
  have hl : lv_has ls 5 [(0, .ref x0), (1, .int p0), (2, .int p1), (3, .ref ou)] := hl
  refine lv_aload_n hx hb dL_recipe_0 rfl (lv_at hl 3 rfl) ?_
  refine lv_iconst (v := 0) hx hb dL_recipe_1 (by decide) ?_
  refine lv_aload_n hx hb dL_recipe_2 rfl (lv_at hl 0 rfl) ?_
  refine lv_iload_n hx hb dL_recipe_3 rfl (lv_at hl 1 rfl) ?_
  refine lv_iload_n hx hb dL_recipe_4 rfl (lv_at hl 2 rfl) ?_
  refine NU_VX ⟨hx, hb, hml, hown, hts⟩ (hM _) (cwV 2 hts gL_recipe_X9_recipe rfl rfl rfl (by decide +kernel) ⟨Nat.le_of_ble_eq_true rfl, Nat.le_of_ble_eq_true rfl⟩) hP hD (hK.sub [0, 1, 2, 3, 4, 5, 6, 7, 8, 9, 10] rfl) hS hA hev hT 0 9 rfl rfl rfl rfl hl.1 rfl (Nat.le_of_ble_eq_true rfl) dL_recipe_5 ⟨Nat.le_of_ble_eq_true rfl, Nat.le_of_ble_eq_true rfl⟩ (fun E ce q9 L9 f9 H locs hpx hT hE hP hD hS hce hcv hcl => ?_) (fun r L8 f8 H locs hw hT hE hP hD hS => ?_)
  · obtain rfl := hX _ _ _ hpx
    refine ck_catch (own := RL) (name := IAE) hown [] ⟨0, 10, 13, 18⟩ [] (by rw [htab]; rfl) (fun z hz => nomatch hz) (by decide) (by decide) (hts (.classLink RL 18 IAE) (by decide +kernel)) (hev.2.2.1.2.1.use rfl) hce hcv hcl ?_
    refine W.eq (g2 := F0 m 13 ls [.ref q9]) rfl ?_
    refine lv_astore (lv' := [(4, .ref q9), (0, .ref x0), (1, .int p0), (2, .int p1), (3, .ref ou)]) hx hb dL_recipe_13 hl (by decide) rfl (fun ls hl => ?_)
    refine lv_iconst (v := 1) hx hb dL_recipe_15 (by decide) ?_
    exact M_i hx hb hr hlocks ((L9, f9), fo) hP hD hK hS ⟨hT.1, hE, Or.inr (⟨rfl, hpx⟩)⟩ (Nat.le_of_ble_eq_true rfl) (Nat.le_of_ble_eq_true rfl) dL_recipe_16
  obtain ⟨z_1, rfl⟩ := hpI _ _ _ hw
  refine W.eq (g2 := F0 m 8 ls [.int z_1, .int 0, .ref ou]) rfl ?_
  refine lv_i2l (v := (z_1).toInt64) hx hb dL_recipe_8 rfl ?_
  refine N_lastX hx hb hK hP hD hS 11 rfl dL_recipe_9 (fun fo_2 hfo_2 H locs hP hD hS => ?_)
  refine lv_goto (tgt := 17) hx hb dL_recipe_10 (by decide) ?_
  refine lv_iconst (v := 0) hx hb dL_recipe_17 (by decide) ?_
  exact M_i hx hb hr hlocks ((L8, f8), fo_2) hP hD hK hS ⟨hT.1, hE, Or.inl (⟨z_1, rfl, hw, hfo_2⟩)⟩ (Nat.le_of_ble_eq_true rfl) (Nat.le_of_ble_eq_true rfl) dL_recipe_18

noncomputable abbrev rm_wS_fault : Room := { frames := 7, cells := 1, slots := 6, locals := 103 }
set_option maxHeartbeats 800000 in
set_option maxRecDepth 100000 in
theorem wS_fault (l : Launch) (dC : Nat → ClassId) (dI : Nat → Nat → Nat) (sa : Nat → Nat) (g : Nat → Nat) (L : List Nat) (f : Nat → va_E) (x0 ou : Nat) (co : ClassId) (fo : Nat → Int64) (p0 : Int32) (sz : Nat) {post : KPost} {px : String → List Nat → (Nat → va_E) → Prop} (hT : TP g L f [(x0, (0, 9, 0))]) (hM : ∀ sz : Nat, KX l dC dI sa g yX9_fault wsX9_fault rm_X9_faultX [.ref x0, .int p0] L f sz post px 1 6) (hpI : ∀ (r : Option Value) (L : List Nat) (f : Nat → va_E), post r L f → ∃ z : Int32, r = some (.int z)) (hX : ∀ (E : String) (L : List Nat) (f : Nat → va_E), px E L f → E = NSE) : CT l dC dI sa yL_fault wsL_fault rm_wS_fault [.ref x0, .int p0, .ref ou] (va_pl L f ++ [(ou, .inl (co, 1, .inr (.inl fo)))]) (tyG g ++ [(co, .long)]) sz (fun r (u : PL × (Nat → Int64)) => WT g u.1.1 u.1.2 ∧ Ext L f u.1.1 u.1.2 ∧ ((∃ v : Int32, r = some (.int 0) ∧ post (some (.int v)) u.1.1 u.1.2 ∧ u.2 0 = v.toInt64) ∨ (r = some (.int 1) ∧ px NSE u.1.1 u.1.2))) (fun u => va_pl u.1.1 u.1.2 ++ [(ou, .inl (co, 1, .inr (.inl u.2)))]) (fun _ => []) 1 6 := by
  refine CT.startW (hh := [(0, 9, 12, 13)]) (cc := cL_fault) (maxL := 4) (ret := (some .int)) (by decide) rfl (Nat.le_of_ble_eq_true rfl) ?_
  intro p e s m below meth c ls hst htab hP hK hD hev hS hl
  obtain ⟨hx, hb, hr, hml, hts, hown, hlocks, hin⟩ := hst
  have hown : s.vm.findClass RL = some m.cls := hown
  have hA : ∀ q : Nat, s.heap.size ≤ q → va_A (va_pl L f ++ [(ou, .inl (co, 1, .inr (.inl fo)))]) s.heap.size q := fun _ h => Or.inr h
  have hl : lv_has ls 4 [(0, .ref x0), (1, .int p0), (2, .ref ou)] := hl
  refine lv_aload_n hx hb dL_fault_0 rfl (lv_at hl 2 rfl) ?_
  refine lv_iconst (v := 0) hx hb dL_fault_1 (by decide) ?_
  refine lv_aload_n hx hb dL_fault_2 rfl (lv_at hl 0 rfl) ?_
  refine lv_iload_n hx hb dL_fault_3 rfl (lv_at hl 1 rfl) ?_
  refine NU_VX ⟨hx, hb, hml, hown, hts⟩ (hM _) (cwV 1 hts gL_fault_X9_fault rfl rfl rfl (by decide +kernel) ⟨Nat.le_of_ble_eq_true rfl, Nat.le_of_ble_eq_true rfl⟩) hP hD (hK.sub [0, 1, 2, 3, 4, 5, 6, 7, 8, 9, 10] rfl) hS hA hev hT 0 9 rfl rfl rfl rfl hl.1 rfl (Nat.le_of_ble_eq_true rfl) dL_fault_4 ⟨Nat.le_of_ble_eq_true rfl, Nat.le_of_ble_eq_true rfl⟩ (fun E ce q9 L9 f9 H locs hpx hT hE hP hD hS hce hcv hcl => ?_) (fun r L8 f8 H locs hw hT hE hP hD hS => ?_)
  · obtain rfl := hX _ _ _ hpx
    refine ck_catch (own := RL) (name := NSE) hown [] ⟨0, 9, 12, 13⟩ [] (by rw [htab]; rfl) (fun z hz => nomatch hz) (by decide) (by decide) (hts (.classLink RL 13 NSE) (by decide +kernel)) (hev.2.2.1.1.use rfl) hce hcv hcl ?_
    refine W.eq (g2 := F0 m 12 ls [.ref q9]) rfl ?_
    refine lv_astore_n (lv' := [(3, .ref q9), (0, .ref x0), (1, .int p0), (2, .ref ou)]) hx hb dL_fault_12 rfl hl (by decide) rfl (fun ls hl => ?_)
    refine lv_iconst (v := 1) hx hb dL_fault_13 (by decide) ?_
    exact M_i hx hb hr hlocks ((L9, f9), fo) hP hD hK hS ⟨hT.1, hE, Or.inr (⟨rfl, hpx⟩)⟩ (Nat.le_of_ble_eq_true rfl) (Nat.le_of_ble_eq_true rfl) dL_fault_14
  obtain ⟨z_1, rfl⟩ := hpI _ _ _ hw
  refine W.eq (g2 := F0 m 7 ls [.int z_1, .int 0, .ref ou]) rfl ?_
  refine lv_i2l (v := (z_1).toInt64) hx hb dL_fault_7 rfl ?_
  refine N_lastX hx hb hK hP hD hS 11 rfl dL_fault_8 (fun fo_2 hfo_2 H locs hP hD hS => ?_)
  refine lv_goto (tgt := 15) hx hb dL_fault_9 (by decide) ?_
  refine lv_iconst (v := 0) hx hb dL_fault_15 (by decide) ?_
  exact M_i hx hb hr hlocks ((L8, f8), fo_2) hP hD hK hS ⟨hT.1, hE, Or.inl (⟨z_1, rfl, hw, hfo_2⟩)⟩ (Nat.le_of_ble_eq_true rfl) (Nat.le_of_ble_eq_true rfl) dL_fault_16

noncomputable abbrev rm_wS_run : Room := { frames := 60, cells := 1, slots := 6, locals := 1474 }
set_option maxHeartbeats 800000 in
set_option maxRecDepth 100000 in
theorem wS_run (l : Launch) (dC : Nat → ClassId) (dI : Nat → Nat → Nat) (sa : Nat → Nat) (g : Nat → Nat) (L : List Nat) (f : Nat → va_E) (x0 ou : Nat) (co : ClassId) (fo : Nat → Int64) (p0 p1 p2 : Int32) (sz : Nat) {post : KPost} {px : String → List Nat → (Nat → va_E) → Prop} (hT : TP g L f [(x0, (0, 9, 0))]) (hM : ∀ sz : Nat, KX l dC dI sa g yX9_run wsX9_run rm_X9_runS [.ref x0, .int p0, .int p1, .int p2] L f sz post px 1 6) (hpI : ∀ (r : Option Value) (L : List Nat) (f : Nat → va_E), post r L f → ∃ z : Int32, r = some (.int z)) (hX : ∀ (E : String) (L : List Nat) (f : Nat → va_E), px E L f → E = NSE) : CT l dC dI sa yL_run wsL_run rm_wS_run [.ref x0, .int p0, .int p1, .int p2, .ref ou] (va_pl L f ++ [(ou, .inl (co, 1, .inr (.inl fo)))]) (tyG g ++ [(co, .long)]) sz (fun r (u : PL × (Nat → Int64)) => WT g u.1.1 u.1.2 ∧ Ext L f u.1.1 u.1.2 ∧ ((∃ v : Int32, r = some (.int 0) ∧ post (some (.int v)) u.1.1 u.1.2 ∧ u.2 0 = v.toInt64) ∨ (r = some (.int 1) ∧ px NSE u.1.1 u.1.2))) (fun u => va_pl u.1.1 u.1.2 ++ [(ou, .inl (co, 1, .inr (.inl u.2)))]) (fun _ => []) 1 6 := by
  refine CT.startW (hh := [(0, 12, 15, 13)]) (cc := cL_run) (maxL := 6) (ret := (some .int)) (by decide) rfl (Nat.le_of_ble_eq_true rfl) ?_
  intro p e s m below meth c ls hst htab hP hK hD hev hS hl
  obtain ⟨hx, hb, hr, hml, hts, hown, hlocks, hin⟩ := hst
  have hown : s.vm.findClass RL = some m.cls := hown
  have hA : ∀ q : Nat, s.heap.size ≤ q → va_A (va_pl L f ++ [(ou, .inl (co, 1, .inr (.inl fo)))]) s.heap.size q := fun _ h => Or.inr h
  have hl : lv_has ls 6 [(0, .ref x0), (1, .int p0), (2, .int p1), (3, .int p2), (4, .ref ou)] := hl
  refine lv_aload hx hb dL_run_0 (lv_at hl 4 rfl) ?_
  refine lv_iconst (v := 0) hx hb dL_run_2 (by decide) ?_
  refine lv_aload_n hx hb dL_run_3 rfl (lv_at hl 0 rfl) ?_
  refine lv_iload_n hx hb dL_run_4 rfl (lv_at hl 1 rfl) ?_
  refine lv_iload_n hx hb dL_run_5 rfl (lv_at hl 2 rfl) ?_
  refine lv_iload_n hx hb dL_run_6 rfl (lv_at hl 3 rfl) ?_
  refine NU_VX ⟨hx, hb, hml, hown, hts⟩ (hM _) (cwV 3 hts gL_run_X9_run rfl rfl rfl (by decide +kernel) ⟨Nat.le_of_ble_eq_true rfl, Nat.le_of_ble_eq_true rfl⟩) hP hD (hK.sub [0, 1, 2, 3, 4, 5, 6, 7, 8, 9, 10] rfl) hS hA hev hT 0 9 rfl rfl rfl rfl hl.1 rfl (Nat.le_of_ble_eq_true rfl) dL_run_7 ⟨Nat.le_of_ble_eq_true rfl, Nat.le_of_ble_eq_true rfl⟩ (fun E ce q9 L9 f9 H locs hpx hT hE hP hD hS hce hcv hcl => ?_) (fun r L8 f8 H locs hw hT hE hP hD hS => ?_)
  · obtain rfl := hX _ _ _ hpx
    refine ck_catch (own := RL) (name := NSE) hown [] ⟨0, 12, 15, 13⟩ [] (by rw [htab]; rfl) (fun z hz => nomatch hz) (by decide) (by decide) (hts (.classLink RL 13 NSE) (by decide +kernel)) (hev.2.2.1.1.use rfl) hce hcv hcl ?_
    refine W.eq (g2 := F0 m 15 ls [.ref q9]) rfl ?_
    refine lv_astore (lv' := [(5, .ref q9), (0, .ref x0), (1, .int p0), (2, .int p1), (3, .int p2), (4, .ref ou)]) hx hb dL_run_15 hl (by decide) rfl (fun ls hl => ?_)
    refine lv_iconst (v := 1) hx hb dL_run_17 (by decide) ?_
    exact M_i hx hb hr hlocks ((L9, f9), fo) hP hD hK hS ⟨hT.1, hE, Or.inr (⟨rfl, hpx⟩)⟩ (Nat.le_of_ble_eq_true rfl) (Nat.le_of_ble_eq_true rfl) dL_run_18
  obtain ⟨z_1, rfl⟩ := hpI _ _ _ hw
  refine W.eq (g2 := F0 m 10 ls [.int z_1, .int 0, .ref ou]) rfl ?_
  refine lv_i2l (v := (z_1).toInt64) hx hb dL_run_10 rfl ?_
  refine N_lastX hx hb hK hP hD hS 11 rfl dL_run_11 (fun fo_2 hfo_2 H locs hP hD hS => ?_)
  refine lv_goto (tgt := 19) hx hb dL_run_12 (by decide) ?_
  refine lv_iconst (v := 0) hx hb dL_run_19 (by decide) ?_
  exact M_i hx hb hr hlocks ((L8, f8), fo_2) hP hD hK hS ⟨hT.1, hE, Or.inl (⟨z_1, rfl, hw, hfo_2⟩)⟩ (Nat.le_of_ble_eq_true rfl) (Nat.le_of_ble_eq_true rfl) dL_run_20

noncomputable abbrev rm_wS_ran : Room := { frames := 7, cells := 1, slots := 6, locals := 103 }
set_option maxHeartbeats 800000 in
set_option maxRecDepth 100000 in
theorem wS_ran (l : Launch) (dC : Nat → ClassId) (dI : Nat → Nat → Nat) (sa : Nat → Nat) (g : Nat → Nat) (L : List Nat) (f : Nat → va_E) (x0 ou : Nat) (co : ClassId) (fo : Nat → Int64) (p0 : Int32) (sz : Nat) {post : KPost} {px : String → List Nat → (Nat → va_E) → Prop} (hT : TP g L f [(x0, (0, 9, 0))]) (hM : ∀ sz : Nat, KX l dC dI sa g yX9_ran wsX9_ran rm_X9_ranS [.ref x0, .int p0] L f sz post px 1 6) (hpI : ∀ (r : Option Value) (L : List Nat) (f : Nat → va_E), post r L f → ∃ z : Int32, r = some (.int z)) (hX : ∀ (E : String) (L : List Nat) (f : Nat → va_E), px E L f → E = NSE) : CT l dC dI sa yL_ran wsL_ran rm_wS_ran [.ref x0, .int p0, .ref ou] (va_pl L f ++ [(ou, .inl (co, 1, .inr (.inl fo)))]) (tyG g ++ [(co, .long)]) sz (fun r (u : PL × (Nat → Int64)) => WT g u.1.1 u.1.2 ∧ Ext L f u.1.1 u.1.2 ∧ ((∃ v : Int32, r = some (.int 0) ∧ post (some (.int v)) u.1.1 u.1.2 ∧ u.2 0 = v.toInt64) ∨ (r = some (.int 1) ∧ px NSE u.1.1 u.1.2))) (fun u => va_pl u.1.1 u.1.2 ++ [(ou, .inl (co, 1, .inr (.inl u.2)))]) (fun _ => []) 1 6 := by
  refine CT.startW (hh := [(0, 9, 12, 13)]) (cc := cL_ran) (maxL := 4) (ret := (some .int)) (by decide) rfl (Nat.le_of_ble_eq_true rfl) ?_
  intro p e s m below meth c ls hst htab hP hK hD hev hS hl
  obtain ⟨hx, hb, hr, hml, hts, hown, hlocks, hin⟩ := hst
  have hown : s.vm.findClass RL = some m.cls := hown
  have hA : ∀ q : Nat, s.heap.size ≤ q → va_A (va_pl L f ++ [(ou, .inl (co, 1, .inr (.inl fo)))]) s.heap.size q := fun _ h => Or.inr h
  have hl : lv_has ls 4 [(0, .ref x0), (1, .int p0), (2, .ref ou)] := hl
  refine lv_aload_n hx hb dL_ran_0 rfl (lv_at hl 2 rfl) ?_
  refine lv_iconst (v := 0) hx hb dL_ran_1 (by decide) ?_
  refine lv_aload_n hx hb dL_ran_2 rfl (lv_at hl 0 rfl) ?_
  refine lv_iload_n hx hb dL_ran_3 rfl (lv_at hl 1 rfl) ?_
  refine NU_VX ⟨hx, hb, hml, hown, hts⟩ (hM _) (cwV 1 hts gL_ran_X9_ran rfl rfl rfl (by decide +kernel) ⟨Nat.le_of_ble_eq_true rfl, Nat.le_of_ble_eq_true rfl⟩) hP hD (hK.sub [0, 1, 2, 3, 4, 5, 6, 7, 8, 9, 10] rfl) hS hA hev hT 0 9 rfl rfl rfl rfl hl.1 rfl (Nat.le_of_ble_eq_true rfl) dL_ran_4 ⟨Nat.le_of_ble_eq_true rfl, Nat.le_of_ble_eq_true rfl⟩ (fun E ce q9 L9 f9 H locs hpx hT hE hP hD hS hce hcv hcl => ?_) (fun r L8 f8 H locs hw hT hE hP hD hS => ?_)
  · obtain rfl := hX _ _ _ hpx
    refine ck_catch (own := RL) (name := NSE) hown [] ⟨0, 9, 12, 13⟩ [] (by rw [htab]; rfl) (fun z hz => nomatch hz) (by decide) (by decide) (hts (.classLink RL 13 NSE) (by decide +kernel)) (hev.2.2.1.1.use rfl) hce hcv hcl ?_
    refine W.eq (g2 := F0 m 12 ls [.ref q9]) rfl ?_
    refine lv_astore_n (lv' := [(3, .ref q9), (0, .ref x0), (1, .int p0), (2, .ref ou)]) hx hb dL_ran_12 rfl hl (by decide) rfl (fun ls hl => ?_)
    refine lv_iconst (v := 1) hx hb dL_ran_13 (by decide) ?_
    exact M_i hx hb hr hlocks ((L9, f9), fo) hP hD hK hS ⟨hT.1, hE, Or.inr (⟨rfl, hpx⟩)⟩ (Nat.le_of_ble_eq_true rfl) (Nat.le_of_ble_eq_true rfl) dL_ran_14
  obtain ⟨z_1, rfl⟩ := hpI _ _ _ hw
  refine W.eq (g2 := F0 m 7 ls [.int z_1, .int 0, .ref ou]) rfl ?_
  refine lv_i2l (v := (z_1).toInt64) hx hb dL_ran_7 rfl ?_
  refine N_lastX hx hb hK hP hD hS 11 rfl dL_ran_8 (fun fo_2 hfo_2 H locs hP hD hS => ?_)
  refine lv_goto (tgt := 15) hx hb dL_ran_9 (by decide) ?_
  refine lv_iconst (v := 0) hx hb dL_ran_15 (by decide) ?_
  exact M_i hx hb hr hlocks ((L8, f8), fo_2) hP hD hK hS ⟨hT.1, hE, Or.inl (⟨z_1, rfl, hw, hfo_2⟩)⟩ (Nat.le_of_ble_eq_true rfl) (Nat.le_of_ble_eq_true rfl) dL_ran_16

noncomputable abbrev rm_wS_plan : Room := { frames := 29, cells := 2, slots := 12, locals := 674 }
set_option maxHeartbeats 800000 in
set_option maxRecDepth 100000 in
theorem wS_plan (l : Launch) (dC : Nat → ClassId) (dI : Nat → Nat → Nat) (sa : Nat → Nat) (g : Nat → Nat) (L : List Nat) (f : Nat → va_E) (x0 ou : Nat) (co : ClassId) (fo : Nat → Int64) (p0 p1 p2 p3 : Int32) (sz : Nat) {post : KPost} {px : String → List Nat → (Nat → va_E) → Prop} (hT : TP g L f [(x0, (0, 9, 0))]) (hM : ∀ sz : Nat, KX l dC dI sa g yX9_plan wsX9_plan rm_X9_planS [.ref x0, .int p0, .int p1, .int p2, .int p3] L f sz post px 2 12) (hpI : ∀ (r : Option Value) (L : List Nat) (f : Nat → va_E), post r L f → ∃ z : Int32, r = some (.int z)) (hX : ∀ (E : String) (L : List Nat) (f : Nat → va_E), px E L f → E = NSE ∨ E = IAE) : CT l dC dI sa yL_plan wsL_plan rm_wS_plan [.ref x0, .int p0, .int p1, .int p2, .int p3, .ref ou] (va_pl L f ++ [(ou, .inl (co, 1, .inr (.inl fo)))]) (tyG g ++ [(co, .long)]) sz (fun r (u : PL × (Nat → Int64)) => WT g u.1.1 u.1.2 ∧ Ext L f u.1.1 u.1.2 ∧ ((∃ v : Int32, r = some (.int 0) ∧ post (some (.int v)) u.1.1 u.1.2 ∧ u.2 0 = v.toInt64) ∨ (r = some (.int 1) ∧ px NSE u.1.1 u.1.2) ∨ (r = some (.int 2) ∧ px IAE u.1.1 u.1.2))) (fun u => va_pl u.1.1 u.1.2 ++ [(ou, .inl (co, 1, .inr (.inl u.2)))]) (fun _ => []) 2 12 := by
  refine CT.startW (hh := [(0, 14, 17, 13), (0, 14, 21, 18)]) (cc := cL_plan) (maxL := 7) (ret := (some .int)) (by decide) rfl (Nat.le_of_ble_eq_true rfl) ?_
  intro p e s m below meth c ls hst htab hP hK hD hev hS hl
  obtain ⟨hx, hb, hr, hml, hts, hown, hlocks, hin⟩ := hst
  have hown : s.vm.findClass RL = some m.cls := hown
  have hA : ∀ q : Nat, s.heap.size ≤ q → va_A (va_pl L f ++ [(ou, .inl (co, 1, .inr (.inl fo)))]) s.heap.size q := fun _ h => Or.inr h
  have hl : lv_has ls 7 [(0, .ref x0), (1, .int p0), (2, .int p1), (3, .int p2), (4, .int p3), (5, .ref ou)] := hl
  refine lv_aload hx hb dL_plan_0 (lv_at hl 5 rfl) ?_
  refine lv_iconst (v := 0) hx hb dL_plan_2 (by decide) ?_
  refine lv_aload_n hx hb dL_plan_3 rfl (lv_at hl 0 rfl) ?_
  refine lv_iload_n hx hb dL_plan_4 rfl (lv_at hl 1 rfl) ?_
  refine lv_iload_n hx hb dL_plan_5 rfl (lv_at hl 2 rfl) ?_
  refine lv_iload_n hx hb dL_plan_6 rfl (lv_at hl 3 rfl) ?_
  refine lv_iload hx hb dL_plan_7 (lv_at hl 4 rfl) ?_
  refine NU_VX ⟨hx, hb, hml, hown, hts⟩ (hM _) (cwV 4 hts gL_plan_X9_plan rfl rfl rfl (by decide +kernel) ⟨Nat.le_of_ble_eq_true rfl, Nat.le_of_ble_eq_true rfl⟩) hP hD (hK.sub [0, 1, 2, 3, 4, 5, 6, 7, 8, 9, 10] rfl) hS hA hev hT 0 9 rfl rfl rfl rfl hl.1 rfl (Nat.le_of_ble_eq_true rfl) dL_plan_9 ⟨Nat.le_of_ble_eq_true rfl, Nat.le_of_ble_eq_true rfl⟩ (fun E ce q9 L9 f9 H locs hpx hT hE hP hD hS hce hcv hcl => ?_) (fun r L8 f8 H locs hw hT hE hP hD hS => ?_)
  · rcases hX _ _ _ hpx with rfl | rfl
    · refine ck_catch (own := RL) (name := NSE) hown [] ⟨0, 14, 17, 13⟩ [⟨0, 14, 21, 18⟩] (by rw [htab]; rfl) (fun z hz => nomatch hz) (by decide) (by decide) (hts (.classLink RL 13 NSE) (by decide +kernel)) (hev.2.2.1.1.use rfl) hce hcv hcl ?_
      refine W.eq (g2 := F0 m 17 ls [.ref q9]) rfl ?_
      refine lv_astore (lv' := [(6, .ref q9), (0, .ref x0), (1, .int p0), (2, .int p1), (3, .int p2), (4, .int p3), (5, .ref ou)]) hx hb dL_plan_17 hl (by decide) rfl (fun ls hl => ?_)
      refine lv_iconst (v := 1) hx hb dL_plan_19 (by decide) ?_
      exact M_i hx hb hr hlocks ((L9, f9), fo) hP hD hK hS ⟨hT.1, hE, Or.inr (Or.inl (⟨rfl, hpx⟩))⟩ (Nat.le_of_ble_eq_true rfl) (Nat.le_of_ble_eq_true rfl) dL_plan_20
    · refine ck_catch (own := RL) (name := IAE) hown [⟨0, 14, 17, 13⟩] ⟨0, 14, 21, 18⟩ [] (by rw [htab]; rfl) (fun z hz => by rcases List.mem_singleton.mp hz with rfl; exact Or.inr ⟨by decide, NSE, hts (.classLink RL 13 NSE) (by decide +kernel), hev.2.2.1.2.2⟩) (by decide) (by decide) (hts (.classLink RL 18 IAE) (by decide +kernel)) (hev.2.2.1.2.1.use rfl) hce hcv hcl ?_
      refine W.eq (g2 := F0 m 21 ls [.ref q9]) rfl ?_
      refine lv_astore (lv' := [(6, .ref q9), (0, .ref x0), (1, .int p0), (2, .int p1), (3, .int p2), (4, .int p3), (5, .ref ou)]) hx hb dL_plan_21 hl (by decide) rfl (fun ls hl => ?_)
      refine lv_iconst (v := 2) hx hb dL_plan_23 (by decide) ?_
      exact M_i hx hb hr hlocks ((L9, f9), fo) hP hD hK hS ⟨hT.1, hE, Or.inr (Or.inr (⟨rfl, hpx⟩))⟩ (Nat.le_of_ble_eq_true rfl) (Nat.le_of_ble_eq_true rfl) dL_plan_24
  obtain ⟨z_1, rfl⟩ := hpI _ _ _ hw
  refine W.eq (g2 := F0 m 12 ls [.int z_1, .int 0, .ref ou]) rfl ?_
  refine lv_i2l (v := (z_1).toInt64) hx hb dL_plan_12 rfl ?_
  refine N_lastX hx hb hK hP hD hS 11 rfl dL_plan_13 (fun fo_2 hfo_2 H locs hP hD hS => ?_)
  refine lv_goto (tgt := 25) hx hb dL_plan_14 (by decide) ?_
  refine lv_iconst (v := 0) hx hb dL_plan_25 (by decide) ?_
  exact M_i hx hb hr hlocks ((L8, f8), fo_2) hP hD hK hS ⟨hT.1, hE, Or.inl (⟨z_1, rfl, hw, hfo_2⟩)⟩ (Nat.le_of_ble_eq_true rfl) (Nat.le_of_ble_eq_true rfl) dL_plan_26

noncomputable abbrev rm_wS_planned : Room := { frames := 7, cells := 1, slots := 6, locals := 104 }
set_option maxHeartbeats 800000 in
set_option maxRecDepth 100000 in
theorem wS_planned (l : Launch) (dC : Nat → ClassId) (dI : Nat → Nat → Nat) (sa : Nat → Nat) (g : Nat → Nat) (L : List Nat) (f : Nat → va_E) (x0 ou : Nat) (co : ClassId) (fo : Nat → Int64) (p0 p1 : Int32) (sz : Nat) {post : KPost} {px : String → List Nat → (Nat → va_E) → Prop} (hT : TP g L f [(x0, (0, 9, 0))]) (hM : ∀ sz : Nat, KX l dC dI sa g yX9_planned wsX9_planned rm_X9_planned [.ref x0, .int p0, .int p1] L f sz post px 1 6) (hpI : ∀ (r : Option Value) (L : List Nat) (f : Nat → va_E), post r L f → ∃ z : Int32, r = some (.int z)) (hX : ∀ (E : String) (L : List Nat) (f : Nat → va_E), px E L f → E = NSE) : CT l dC dI sa yL_planned wsL_planned rm_wS_planned [.ref x0, .int p0, .int p1, .ref ou] (va_pl L f ++ [(ou, .inl (co, 1, .inr (.inl fo)))]) (tyG g ++ [(co, .long)]) sz (fun r (u : PL × (Nat → Int64)) => WT g u.1.1 u.1.2 ∧ Ext L f u.1.1 u.1.2 ∧ ((∃ v : Int32, r = some (.int 0) ∧ post (some (.int v)) u.1.1 u.1.2 ∧ u.2 0 = v.toInt64) ∨ (r = some (.int 1) ∧ px NSE u.1.1 u.1.2))) (fun u => va_pl u.1.1 u.1.2 ++ [(ou, .inl (co, 1, .inr (.inl u.2)))]) (fun _ => []) 1 6 := by
  refine CT.startW (hh := [(0, 10, 13, 13)]) (cc := cL_planned) (maxL := 5) (ret := (some .int)) (by decide) rfl (Nat.le_of_ble_eq_true rfl) ?_
  intro p e s m below meth c ls hst htab hP hK hD hev hS hl
  obtain ⟨hx, hb, hr, hml, hts, hown, hlocks, hin⟩ := hst
  have hown : s.vm.findClass RL = some m.cls := hown
  have hA : ∀ q : Nat, s.heap.size ≤ q → va_A (va_pl L f ++ [(ou, .inl (co, 1, .inr (.inl fo)))]) s.heap.size q := fun _ h => Or.inr h
  have hl : lv_has ls 5 [(0, .ref x0), (1, .int p0), (2, .int p1), (3, .ref ou)] := hl
  refine lv_aload_n hx hb dL_planned_0 rfl (lv_at hl 3 rfl) ?_
  refine lv_iconst (v := 0) hx hb dL_planned_1 (by decide) ?_
  refine lv_aload_n hx hb dL_planned_2 rfl (lv_at hl 0 rfl) ?_
  refine lv_iload_n hx hb dL_planned_3 rfl (lv_at hl 1 rfl) ?_
  refine lv_iload_n hx hb dL_planned_4 rfl (lv_at hl 2 rfl) ?_
  refine NU_VX ⟨hx, hb, hml, hown, hts⟩ (hM _) (cwV 2 hts gL_planned_X9_planned rfl rfl rfl (by decide +kernel) ⟨Nat.le_of_ble_eq_true rfl, Nat.le_of_ble_eq_true rfl⟩) hP hD (hK.sub [0, 1, 2, 3, 4, 5, 6, 7, 8, 9, 10] rfl) hS hA hev hT 0 9 rfl rfl rfl rfl hl.1 rfl (Nat.le_of_ble_eq_true rfl) dL_planned_5 ⟨Nat.le_of_ble_eq_true rfl, Nat.le_of_ble_eq_true rfl⟩ (fun E ce q9 L9 f9 H locs hpx hT hE hP hD hS hce hcv hcl => ?_) (fun r L8 f8 H locs hw hT hE hP hD hS => ?_)
  · obtain rfl := hX _ _ _ hpx
    refine ck_catch (own := RL) (name := NSE) hown [] ⟨0, 10, 13, 13⟩ [] (by rw [htab]; rfl) (fun z hz => nomatch hz) (by decide) (by decide) (hts (.classLink RL 13 NSE) (by decide +kernel)) (hev.2.2.1.1.use rfl) hce hcv hcl ?_
    refine W.eq (g2 := F0 m 13 ls [.ref q9]) rfl ?_
    refine lv_astore (lv' := [(4, .ref q9), (0, .ref x0), (1, .int p0), (2, .int p1), (3, .ref ou)]) hx hb dL_planned_13 hl (by decide) rfl (fun ls hl => ?_)
    refine lv_iconst (v := 1) hx hb dL_planned_15 (by decide) ?_
    exact M_i hx hb hr hlocks ((L9, f9), fo) hP hD hK hS ⟨hT.1, hE, Or.inr (⟨rfl, hpx⟩)⟩ (Nat.le_of_ble_eq_true rfl) (Nat.le_of_ble_eq_true rfl) dL_planned_16
  obtain ⟨z_1, rfl⟩ := hpI _ _ _ hw
  refine W.eq (g2 := F0 m 8 ls [.int z_1, .int 0, .ref ou]) rfl ?_
  refine lv_i2l (v := (z_1).toInt64) hx hb dL_planned_8 rfl ?_
  refine N_lastX hx hb hK hP hD hS 11 rfl dL_planned_9 (fun fo_2 hfo_2 H locs hP hD hS => ?_)
  refine lv_goto (tgt := 17) hx hb dL_planned_10 (by decide) ?_
  refine lv_iconst (v := 0) hx hb dL_planned_17 (by decide) ?_
  exact M_i hx hb hr hlocks ((L8, f8), fo_2) hP hD hK hS ⟨hT.1, hE, Or.inl (⟨z_1, rfl, hw, hfo_2⟩)⟩ (Nat.le_of_ble_eq_true rfl) (Nat.le_of_ble_eq_true rfl) dL_planned_18

noncomputable abbrev rm_wS_vat : Room := { frames := 8, cells := 2, slots := 12, locals := 126 }
set_option maxHeartbeats 800000 in
set_option maxRecDepth 100000 in
theorem wS_vat (l : Launch) (dC : Nat → ClassId) (dI : Nat → Nat → Nat) (sa : Nat → Nat) (g : Nat → Nat) (L : List Nat) (f : Nat → va_E) (x0 ou : Nat) (co : ClassId) (fo : Nat → Int64) (p0 p1 : Int32) (sz : Nat) {post : KPost} {px : String → List Nat → (Nat → va_E) → Prop} (hT : TP g L f [(x0, (0, 9, 0))]) (hM : ∀ sz : Nat, KX l dC dI sa g yX9_vat wsX9_vat rm_X9_vatS [.ref x0, .int p0, .int p1] L f sz post px 2 12) (hpI : ∀ (r : Option Value) (L : List Nat) (f : Nat → va_E), post r L f → ∃ z : Int32, r = some (.int z)) (hX : ∀ (E : String) (L : List Nat) (f : Nat → va_E), px E L f → E = NSE) : CT l dC dI sa yL_vat wsL_vat rm_wS_vat [.ref x0, .int p0, .int p1, .ref ou] (va_pl L f ++ [(ou, .inl (co, 1, .inr (.inl fo)))]) (tyG g ++ [(co, .long)]) sz (fun r (u : PL × (Nat → Int64)) => WT g u.1.1 u.1.2 ∧ Ext L f u.1.1 u.1.2 ∧ ((∃ v : Int32, r = some (.int 0) ∧ post (some (.int v)) u.1.1 u.1.2 ∧ u.2 0 = v.toInt64) ∨ (r = some (.int 1) ∧ px NSE u.1.1 u.1.2))) (fun u => va_pl u.1.1 u.1.2 ++ [(ou, .inl (co, 1, .inr (.inl u.2)))]) (fun _ => []) 2 12 := by
  refine CT.startW (hh := [(0, 10, 13, 13)]) (cc := cL_vat) (maxL := 5) (ret := (some .int)) (by decide) rfl (Nat.le_of_ble_eq_true rfl) ?_
  intro p e s m below meth c ls hst htab hP hK hD hev hS hl
  obtain ⟨hx, hb, hr, hml, hts, hown, hlocks, hin⟩ := hst
  have hown : s.vm.findClass RL = some m.cls := hown
  have hA : ∀ q : Nat, s.heap.size ≤ q → va_A (va_pl L f ++ [(ou, .inl (co, 1, .inr (.inl fo)))]) s.heap.size q := fun _ h => Or.inr h
  have hl : lv_has ls 5 [(0, .ref x0), (1, .int p0), (2, .int p1), (3, .ref ou)] := hl
  refine lv_aload_n hx hb dL_vat_0 rfl (lv_at hl 3 rfl) ?_
  refine lv_iconst (v := 0) hx hb dL_vat_1 (by decide) ?_
  refine lv_aload_n hx hb dL_vat_2 rfl (lv_at hl 0 rfl) ?_
  refine lv_iload_n hx hb dL_vat_3 rfl (lv_at hl 1 rfl) ?_
  refine lv_iload_n hx hb dL_vat_4 rfl (lv_at hl 2 rfl) ?_
  refine NU_VX ⟨hx, hb, hml, hown, hts⟩ (hM _) (cwV 2 hts gL_vat_X9_vat rfl rfl rfl (by decide +kernel) ⟨Nat.le_of_ble_eq_true rfl, Nat.le_of_ble_eq_true rfl⟩) hP hD (hK.sub [0, 1, 2, 3, 4, 5, 6, 7, 8, 9, 10] rfl) hS hA hev hT 0 9 rfl rfl rfl rfl hl.1 rfl (Nat.le_of_ble_eq_true rfl) dL_vat_5 ⟨Nat.le_of_ble_eq_true rfl, Nat.le_of_ble_eq_true rfl⟩ (fun E ce q9 L9 f9 H locs hpx hT hE hP hD hS hce hcv hcl => ?_) (fun r L8 f8 H locs hw hT hE hP hD hS => ?_)
  · obtain rfl := hX _ _ _ hpx
    refine ck_catch (own := RL) (name := NSE) hown [] ⟨0, 10, 13, 13⟩ [] (by rw [htab]; rfl) (fun z hz => nomatch hz) (by decide) (by decide) (hts (.classLink RL 13 NSE) (by decide +kernel)) (hev.2.2.1.1.use rfl) hce hcv hcl ?_
    refine W.eq (g2 := F0 m 13 ls [.ref q9]) rfl ?_
    refine lv_astore (lv' := [(4, .ref q9), (0, .ref x0), (1, .int p0), (2, .int p1), (3, .ref ou)]) hx hb dL_vat_13 hl (by decide) rfl (fun ls hl => ?_)
    refine lv_iconst (v := 1) hx hb dL_vat_15 (by decide) ?_
    exact M_i hx hb hr hlocks ((L9, f9), fo) hP hD hK hS ⟨hT.1, hE, Or.inr (⟨rfl, hpx⟩)⟩ (Nat.le_of_ble_eq_true rfl) (Nat.le_of_ble_eq_true rfl) dL_vat_16
  obtain ⟨z_1, rfl⟩ := hpI _ _ _ hw
  refine W.eq (g2 := F0 m 8 ls [.int z_1, .int 0, .ref ou]) rfl ?_
  refine lv_i2l (v := (z_1).toInt64) hx hb dL_vat_8 rfl ?_
  refine N_lastX hx hb hK hP hD hS 11 rfl dL_vat_9 (fun fo_2 hfo_2 H locs hP hD hS => ?_)
  refine lv_goto (tgt := 17) hx hb dL_vat_10 (by decide) ?_
  refine lv_iconst (v := 0) hx hb dL_vat_17 (by decide) ?_
  exact M_i hx hb hr hlocks ((L8, f8), fo_2) hP hD hK hS ⟨hT.1, hE, Or.inl (⟨z_1, rfl, hw, hfo_2⟩)⟩ (Nat.le_of_ble_eq_true rfl) (Nat.le_of_ble_eq_true rfl) dL_vat_18

noncomputable abbrev rm_wS_about : Room := { frames := 8, cells := 2, slots := 12, locals := 127 }
set_option maxHeartbeats 800000 in
set_option maxRecDepth 100000 in
theorem wS_about (l : Launch) (dC : Nat → ClassId) (dI : Nat → Nat → Nat) (sa : Nat → Nat) (g : Nat → Nat) (L : List Nat) (f : Nat → va_E) (x0 ou : Nat) (co : ClassId) (fo : Nat → Int64) (p0 p1 : Int32) (sz : Nat) {post : KPost} {px : String → List Nat → (Nat → va_E) → Prop} (hT : TP g L f [(x0, (0, 9, 0))]) (hM : ∀ sz : Nat, KX l dC dI sa g yX9_about wsX9_about rm_X9_aboutS [.ref x0, .int p0, .int p1] L f sz post px 2 12) (hpI : ∀ (r : Option Value) (L : List Nat) (f : Nat → va_E), post r L f → ∃ z : Int32, r = some (.int z)) (hX : ∀ (E : String) (L : List Nat) (f : Nat → va_E), px E L f → E = NSE) : CT l dC dI sa yL_about wsL_about rm_wS_about [.ref x0, .int p0, .int p1, .ref ou] (va_pl L f ++ [(ou, .inl (co, 1, .inr (.inl fo)))]) (tyG g ++ [(co, .long)]) sz (fun r (u : PL × (Nat → Int64)) => WT g u.1.1 u.1.2 ∧ Ext L f u.1.1 u.1.2 ∧ ((∃ v : Int32, r = some (.int 0) ∧ post (some (.int v)) u.1.1 u.1.2 ∧ u.2 0 = v.toInt64) ∨ (r = some (.int 1) ∧ px NSE u.1.1 u.1.2))) (fun u => va_pl u.1.1 u.1.2 ++ [(ou, .inl (co, 1, .inr (.inl u.2)))]) (fun _ => []) 2 12 := by
  refine CT.startW (hh := [(0, 10, 13, 13)]) (cc := cL_about) (maxL := 5) (ret := (some .int)) (by decide) rfl (Nat.le_of_ble_eq_true rfl) ?_
  intro p e s m below meth c ls hst htab hP hK hD hev hS hl
  obtain ⟨hx, hb, hr, hml, hts, hown, hlocks, hin⟩ := hst
  have hown : s.vm.findClass RL = some m.cls := hown
  have hA : ∀ q : Nat, s.heap.size ≤ q → va_A (va_pl L f ++ [(ou, .inl (co, 1, .inr (.inl fo)))]) s.heap.size q := fun _ h => Or.inr h
  have hl : lv_has ls 5 [(0, .ref x0), (1, .int p0), (2, .int p1), (3, .ref ou)] := hl
  refine lv_aload_n hx hb dL_about_0 rfl (lv_at hl 3 rfl) ?_
  refine lv_iconst (v := 0) hx hb dL_about_1 (by decide) ?_
  refine lv_aload_n hx hb dL_about_2 rfl (lv_at hl 0 rfl) ?_
  refine lv_iload_n hx hb dL_about_3 rfl (lv_at hl 1 rfl) ?_
  refine lv_iload_n hx hb dL_about_4 rfl (lv_at hl 2 rfl) ?_
  refine NU_VX ⟨hx, hb, hml, hown, hts⟩ (hM _) (cwV 2 hts gL_about_X9_about rfl rfl rfl (by decide +kernel) ⟨Nat.le_of_ble_eq_true rfl, Nat.le_of_ble_eq_true rfl⟩) hP hD (hK.sub [0, 1, 2, 3, 4, 5, 6, 7, 8, 9, 10] rfl) hS hA hev hT 0 9 rfl rfl rfl rfl hl.1 rfl (Nat.le_of_ble_eq_true rfl) dL_about_5 ⟨Nat.le_of_ble_eq_true rfl, Nat.le_of_ble_eq_true rfl⟩ (fun E ce q9 L9 f9 H locs hpx hT hE hP hD hS hce hcv hcl => ?_) (fun r L8 f8 H locs hw hT hE hP hD hS => ?_)
  · obtain rfl := hX _ _ _ hpx
    refine ck_catch (own := RL) (name := NSE) hown [] ⟨0, 10, 13, 13⟩ [] (by rw [htab]; rfl) (fun z hz => nomatch hz) (by decide) (by decide) (hts (.classLink RL 13 NSE) (by decide +kernel)) (hev.2.2.1.1.use rfl) hce hcv hcl ?_
    refine W.eq (g2 := F0 m 13 ls [.ref q9]) rfl ?_
    refine lv_astore (lv' := [(4, .ref q9), (0, .ref x0), (1, .int p0), (2, .int p1), (3, .ref ou)]) hx hb dL_about_13 hl (by decide) rfl (fun ls hl => ?_)
    refine lv_iconst (v := 1) hx hb dL_about_15 (by decide) ?_
    exact M_i hx hb hr hlocks ((L9, f9), fo) hP hD hK hS ⟨hT.1, hE, Or.inr (⟨rfl, hpx⟩)⟩ (Nat.le_of_ble_eq_true rfl) (Nat.le_of_ble_eq_true rfl) dL_about_16
  obtain ⟨z_1, rfl⟩ := hpI _ _ _ hw
  refine W.eq (g2 := F0 m 8 ls [.int z_1, .int 0, .ref ou]) rfl ?_
  refine lv_i2l (v := (z_1).toInt64) hx hb dL_about_8 rfl ?_
  refine N_lastX hx hb hK hP hD hS 11 rfl dL_about_9 (fun fo_2 hfo_2 H locs hP hD hS => ?_)
  refine lv_goto (tgt := 17) hx hb dL_about_10 (by decide) ?_
  refine lv_iconst (v := 0) hx hb dL_about_17 (by decide) ?_
  exact M_i hx hb hr hlocks ((L8, f8), fo_2) hP hD hK hS ⟨hT.1, hE, Or.inl (⟨z_1, rfl, hw, hfo_2⟩)⟩ (Nat.le_of_ble_eq_true rfl) (Nat.le_of_ble_eq_true rfl) dL_about_18

noncomputable abbrev rm_wS_count : Room := { frames := 7, cells := 1, slots := 6, locals := 103 }
set_option maxHeartbeats 800000 in
set_option maxRecDepth 100000 in
theorem wS_count (l : Launch) (dC : Nat → ClassId) (dI : Nat → Nat → Nat) (sa : Nat → Nat) (g : Nat → Nat) (L : List Nat) (f : Nat → va_E) (x0 ou : Nat) (co : ClassId) (fo : Nat → Int64) (p0 : Int32) (sz : Nat) {post : KPost} {px : String → List Nat → (Nat → va_E) → Prop} (hT : TP g L f [(x0, (0, 9, 0))]) (hM : ∀ sz : Nat, KX l dC dI sa g yX9_count wsX9_count rm_X9_countS [.ref x0, .int p0] L f sz post px 1 6) (hpI : ∀ (r : Option Value) (L : List Nat) (f : Nat → va_E), post r L f → ∃ z : Int32, r = some (.int z)) (hX : ∀ (E : String) (L : List Nat) (f : Nat → va_E), px E L f → E = NSE) : CT l dC dI sa yL_count wsL_count rm_wS_count [.ref x0, .int p0, .ref ou] (va_pl L f ++ [(ou, .inl (co, 1, .inr (.inl fo)))]) (tyG g ++ [(co, .long)]) sz (fun r (u : PL × (Nat → Int64)) => WT g u.1.1 u.1.2 ∧ Ext L f u.1.1 u.1.2 ∧ ((∃ v : Int32, r = some (.int 0) ∧ post (some (.int v)) u.1.1 u.1.2 ∧ u.2 0 = v.toInt64) ∨ (r = some (.int 1) ∧ px NSE u.1.1 u.1.2))) (fun u => va_pl u.1.1 u.1.2 ++ [(ou, .inl (co, 1, .inr (.inl u.2)))]) (fun _ => []) 1 6 := by
  refine CT.startW (hh := [(0, 9, 12, 13)]) (cc := cL_count) (maxL := 4) (ret := (some .int)) (by decide) rfl (Nat.le_of_ble_eq_true rfl) ?_
  intro p e s m below meth c ls hst htab hP hK hD hev hS hl
  obtain ⟨hx, hb, hr, hml, hts, hown, hlocks, hin⟩ := hst
  have hown : s.vm.findClass RL = some m.cls := hown
  have hA : ∀ q : Nat, s.heap.size ≤ q → va_A (va_pl L f ++ [(ou, .inl (co, 1, .inr (.inl fo)))]) s.heap.size q := fun _ h => Or.inr h
  have hl : lv_has ls 4 [(0, .ref x0), (1, .int p0), (2, .ref ou)] := hl
  refine lv_aload_n hx hb dL_count_0 rfl (lv_at hl 2 rfl) ?_
  refine lv_iconst (v := 0) hx hb dL_count_1 (by decide) ?_
  refine lv_aload_n hx hb dL_count_2 rfl (lv_at hl 0 rfl) ?_
  refine lv_iload_n hx hb dL_count_3 rfl (lv_at hl 1 rfl) ?_
  refine NU_VX ⟨hx, hb, hml, hown, hts⟩ (hM _) (cwV 1 hts gL_count_X9_count rfl rfl rfl (by decide +kernel) ⟨Nat.le_of_ble_eq_true rfl, Nat.le_of_ble_eq_true rfl⟩) hP hD (hK.sub [0, 1, 2, 3, 4, 5, 6, 7, 8, 9, 10] rfl) hS hA hev hT 0 9 rfl rfl rfl rfl hl.1 rfl (Nat.le_of_ble_eq_true rfl) dL_count_4 ⟨Nat.le_of_ble_eq_true rfl, Nat.le_of_ble_eq_true rfl⟩ (fun E ce q9 L9 f9 H locs hpx hT hE hP hD hS hce hcv hcl => ?_) (fun r L8 f8 H locs hw hT hE hP hD hS => ?_)
  · obtain rfl := hX _ _ _ hpx
    refine ck_catch (own := RL) (name := NSE) hown [] ⟨0, 9, 12, 13⟩ [] (by rw [htab]; rfl) (fun z hz => nomatch hz) (by decide) (by decide) (hts (.classLink RL 13 NSE) (by decide +kernel)) (hev.2.2.1.1.use rfl) hce hcv hcl ?_
    refine W.eq (g2 := F0 m 12 ls [.ref q9]) rfl ?_
    refine lv_astore_n (lv' := [(3, .ref q9), (0, .ref x0), (1, .int p0), (2, .ref ou)]) hx hb dL_count_12 rfl hl (by decide) rfl (fun ls hl => ?_)
    refine lv_iconst (v := 1) hx hb dL_count_13 (by decide) ?_
    exact M_i hx hb hr hlocks ((L9, f9), fo) hP hD hK hS ⟨hT.1, hE, Or.inr (⟨rfl, hpx⟩)⟩ (Nat.le_of_ble_eq_true rfl) (Nat.le_of_ble_eq_true rfl) dL_count_14
  obtain ⟨z_1, rfl⟩ := hpI _ _ _ hw
  refine W.eq (g2 := F0 m 7 ls [.int z_1, .int 0, .ref ou]) rfl ?_
  refine lv_i2l (v := (z_1).toInt64) hx hb dL_count_7 rfl ?_
  refine N_lastX hx hb hK hP hD hS 11 rfl dL_count_8 (fun fo_2 hfo_2 H locs hP hD hS => ?_)
  refine lv_goto (tgt := 15) hx hb dL_count_9 (by decide) ?_
  refine lv_iconst (v := 0) hx hb dL_count_15 (by decide) ?_
  exact M_i hx hb hr hlocks ((L8, f8), fo_2) hP hD hK hS ⟨hT.1, hE, Or.inl (⟨z_1, rfl, hw, hfo_2⟩)⟩ (Nat.le_of_ble_eq_true rfl) (Nat.le_of_ble_eq_true rfl) dL_count_16

noncomputable abbrev rm_wS_faded : Room := { frames := 8, cells := 2, slots := 12, locals := 128 }
set_option maxHeartbeats 800000 in
set_option maxRecDepth 100000 in
theorem wS_faded (l : Launch) (dC : Nat → ClassId) (dI : Nat → Nat → Nat) (sa : Nat → Nat) (g : Nat → Nat) (L : List Nat) (f : Nat → va_E) (x0 ou : Nat) (co : ClassId) (fo : Nat → Int64) (p0 p1 p2 : Int32) (sz : Nat) {post : KPost} {px : String → List Nat → (Nat → va_E) → Prop} (hT : TP g L f [(x0, (0, 9, 0))]) (hM : ∀ sz : Nat, KX l dC dI sa g yX9_faded wsX9_faded rm_X9_fadedS [.ref x0, .int p0, .int p1, .int p2] L f sz post px 2 12) (hpI : ∀ (r : Option Value) (L : List Nat) (f : Nat → va_E), post r L f → ∃ z : Int32, r = some (.int z)) (hX : ∀ (E : String) (L : List Nat) (f : Nat → va_E), px E L f → E = NSE ∨ E = IAE) : CT l dC dI sa yL_faded wsL_faded rm_wS_faded [.ref x0, .int p0, .int p1, .int p2, .ref ou] (va_pl L f ++ [(ou, .inl (co, 1, .inr (.inl fo)))]) (tyG g ++ [(co, .long)]) sz (fun r (u : PL × (Nat → Int64)) => WT g u.1.1 u.1.2 ∧ Ext L f u.1.1 u.1.2 ∧ ((∃ v : Int32, r = some (.int 0) ∧ post (some (.int v)) u.1.1 u.1.2 ∧ u.2 0 = v.toInt64) ∨ (r = some (.int 1) ∧ px NSE u.1.1 u.1.2) ∨ (r = some (.int 2) ∧ px IAE u.1.1 u.1.2))) (fun u => va_pl u.1.1 u.1.2 ++ [(ou, .inl (co, 1, .inr (.inl u.2)))]) (fun _ => []) 2 12 := by
  refine CT.startW (hh := [(0, 12, 15, 13), (0, 12, 19, 18)]) (cc := cL_faded) (maxL := 6) (ret := (some .int)) (by decide) rfl (Nat.le_of_ble_eq_true rfl) ?_
  intro p e s m below meth c ls hst htab hP hK hD hev hS hl
  obtain ⟨hx, hb, hr, hml, hts, hown, hlocks, hin⟩ := hst
  have hown : s.vm.findClass RL = some m.cls := hown
  have hA : ∀ q : Nat, s.heap.size ≤ q → va_A (va_pl L f ++ [(ou, .inl (co, 1, .inr (.inl fo)))]) s.heap.size q := fun _ h => Or.inr h
  have hl : lv_has ls 6 [(0, .ref x0), (1, .int p0), (2, .int p1), (3, .int p2), (4, .ref ou)] := hl
  refine lv_aload hx hb dL_faded_0 (lv_at hl 4 rfl) ?_
  refine lv_iconst (v := 0) hx hb dL_faded_2 (by decide) ?_
  refine lv_aload_n hx hb dL_faded_3 rfl (lv_at hl 0 rfl) ?_
  refine lv_iload_n hx hb dL_faded_4 rfl (lv_at hl 1 rfl) ?_
  refine lv_iload_n hx hb dL_faded_5 rfl (lv_at hl 2 rfl) ?_
  refine lv_iload_n hx hb dL_faded_6 rfl (lv_at hl 3 rfl) ?_
  refine NU_VX ⟨hx, hb, hml, hown, hts⟩ (hM _) (cwV 3 hts gL_faded_X9_faded rfl rfl rfl (by decide +kernel) ⟨Nat.le_of_ble_eq_true rfl, Nat.le_of_ble_eq_true rfl⟩) hP hD (hK.sub [0, 1, 2, 3, 4, 5, 6, 7, 8, 9, 10] rfl) hS hA hev hT 0 9 rfl rfl rfl rfl hl.1 rfl (Nat.le_of_ble_eq_true rfl) dL_faded_7 ⟨Nat.le_of_ble_eq_true rfl, Nat.le_of_ble_eq_true rfl⟩ (fun E ce q9 L9 f9 H locs hpx hT hE hP hD hS hce hcv hcl => ?_) (fun r L8 f8 H locs hw hT hE hP hD hS => ?_)
  · rcases hX _ _ _ hpx with rfl | rfl
    · refine ck_catch (own := RL) (name := NSE) hown [] ⟨0, 12, 15, 13⟩ [⟨0, 12, 19, 18⟩] (by rw [htab]; rfl) (fun z hz => nomatch hz) (by decide) (by decide) (hts (.classLink RL 13 NSE) (by decide +kernel)) (hev.2.2.1.1.use rfl) hce hcv hcl ?_
      refine W.eq (g2 := F0 m 15 ls [.ref q9]) rfl ?_
      refine lv_astore (lv' := [(5, .ref q9), (0, .ref x0), (1, .int p0), (2, .int p1), (3, .int p2), (4, .ref ou)]) hx hb dL_faded_15 hl (by decide) rfl (fun ls hl => ?_)
      refine lv_iconst (v := 1) hx hb dL_faded_17 (by decide) ?_
      exact M_i hx hb hr hlocks ((L9, f9), fo) hP hD hK hS ⟨hT.1, hE, Or.inr (Or.inl (⟨rfl, hpx⟩))⟩ (Nat.le_of_ble_eq_true rfl) (Nat.le_of_ble_eq_true rfl) dL_faded_18
    · refine ck_catch (own := RL) (name := IAE) hown [⟨0, 12, 15, 13⟩] ⟨0, 12, 19, 18⟩ [] (by rw [htab]; rfl) (fun z hz => by rcases List.mem_singleton.mp hz with rfl; exact Or.inr ⟨by decide, NSE, hts (.classLink RL 13 NSE) (by decide +kernel), hev.2.2.1.2.2⟩) (by decide) (by decide) (hts (.classLink RL 18 IAE) (by decide +kernel)) (hev.2.2.1.2.1.use rfl) hce hcv hcl ?_
      refine W.eq (g2 := F0 m 19 ls [.ref q9]) rfl ?_
      refine lv_astore (lv' := [(5, .ref q9), (0, .ref x0), (1, .int p0), (2, .int p1), (3, .int p2), (4, .ref ou)]) hx hb dL_faded_19 hl (by decide) rfl (fun ls hl => ?_)
      refine lv_iconst (v := 2) hx hb dL_faded_21 (by decide) ?_
      exact M_i hx hb hr hlocks ((L9, f9), fo) hP hD hK hS ⟨hT.1, hE, Or.inr (Or.inr (⟨rfl, hpx⟩))⟩ (Nat.le_of_ble_eq_true rfl) (Nat.le_of_ble_eq_true rfl) dL_faded_22
  obtain ⟨z_1, rfl⟩ := hpI _ _ _ hw
  refine W.eq (g2 := F0 m 10 ls [.int z_1, .int 0, .ref ou]) rfl ?_
  refine lv_i2l (v := (z_1).toInt64) hx hb dL_faded_10 rfl ?_
  refine N_lastX hx hb hK hP hD hS 11 rfl dL_faded_11 (fun fo_2 hfo_2 H locs hP hD hS => ?_)
  refine lv_goto (tgt := 23) hx hb dL_faded_12 (by decide) ?_
  refine lv_iconst (v := 0) hx hb dL_faded_23 (by decide) ?_
  exact M_i hx hb hr hlocks ((L8, f8), fo_2) hP hD hK hS ⟨hT.1, hE, Or.inl (⟨z_1, rfl, hw, hfo_2⟩)⟩ (Nat.le_of_ble_eq_true rfl) (Nat.le_of_ble_eq_true rfl) dL_faded_24

noncomputable abbrev rm_wS_matching : Room := { frames := 8, cells := 2, slots := 12, locals := 130 }
set_option maxHeartbeats 800000 in
set_option maxRecDepth 100000 in
theorem wS_matching (l : Launch) (dC : Nat → ClassId) (dI : Nat → Nat → Nat) (sa : Nat → Nat) (g : Nat → Nat) (L : List Nat) (f : Nat → va_E) (x0 ou : Nat) (co : ClassId) (fo : Nat → Int64) (p0 p1 : Int32) (sz : Nat) {post : KPost} {px : String → List Nat → (Nat → va_E) → Prop} (hT : TP g L f [(x0, (0, 9, 0))]) (hM : ∀ sz : Nat, KX l dC dI sa g yX9_matching wsX9_matching rm_X9_matchingS [.ref x0, .int p0, .int p1] L f sz post px 2 12) (hpI : ∀ (r : Option Value) (L : List Nat) (f : Nat → va_E), post r L f → ∃ z : Int32, r = some (.int z)) (hX : ∀ (E : String) (L : List Nat) (f : Nat → va_E), px E L f → E = NSE ∨ E = IAE) : CT l dC dI sa yL_matching wsL_matching rm_wS_matching [.ref x0, .int p0, .int p1, .ref ou] (va_pl L f ++ [(ou, .inl (co, 1, .inr (.inl fo)))]) (tyG g ++ [(co, .long)]) sz (fun r (u : PL × (Nat → Int64)) => WT g u.1.1 u.1.2 ∧ Ext L f u.1.1 u.1.2 ∧ ((∃ v : Int32, r = some (.int 0) ∧ post (some (.int v)) u.1.1 u.1.2 ∧ u.2 0 = v.toInt64) ∨ (r = some (.int 1) ∧ px NSE u.1.1 u.1.2) ∨ (r = some (.int 2) ∧ px IAE u.1.1 u.1.2))) (fun u => va_pl u.1.1 u.1.2 ++ [(ou, .inl (co, 1, .inr (.inl u.2)))]) (fun _ => []) 2 12 := by
  refine CT.startW (hh := [(0, 10, 13, 13), (0, 10, 17, 18)]) (cc := cL_matching) (maxL := 5) (ret := (some .int)) (by decide) rfl (Nat.le_of_ble_eq_true rfl) ?_
  intro p e s m below meth c ls hst htab hP hK hD hev hS hl
  obtain ⟨hx, hb, hr, hml, hts, hown, hlocks, hin⟩ := hst
  have hown : s.vm.findClass RL = some m.cls := hown
  have hA : ∀ q : Nat, s.heap.size ≤ q → va_A (va_pl L f ++ [(ou, .inl (co, 1, .inr (.inl fo)))]) s.heap.size q := fun _ h => Or.inr h
  have hl : lv_has ls 5 [(0, .ref x0), (1, .int p0), (2, .int p1), (3, .ref ou)] := hl
  refine lv_aload_n hx hb dL_matching_0 rfl (lv_at hl 3 rfl) ?_
  refine lv_iconst (v := 0) hx hb dL_matching_1 (by decide) ?_
  refine lv_aload_n hx hb dL_matching_2 rfl (lv_at hl 0 rfl) ?_
  refine lv_iload_n hx hb dL_matching_3 rfl (lv_at hl 1 rfl) ?_
  refine lv_iload_n hx hb dL_matching_4 rfl (lv_at hl 2 rfl) ?_
  refine NU_VX ⟨hx, hb, hml, hown, hts⟩ (hM _) (cwV 2 hts gL_matching_X9_matching rfl rfl rfl (by decide +kernel) ⟨Nat.le_of_ble_eq_true rfl, Nat.le_of_ble_eq_true rfl⟩) hP hD (hK.sub [0, 1, 2, 3, 4, 5, 6, 7, 8, 9, 10] rfl) hS hA hev hT 0 9 rfl rfl rfl rfl hl.1 rfl (Nat.le_of_ble_eq_true rfl) dL_matching_5 ⟨Nat.le_of_ble_eq_true rfl, Nat.le_of_ble_eq_true rfl⟩ (fun E ce q9 L9 f9 H locs hpx hT hE hP hD hS hce hcv hcl => ?_) (fun r L8 f8 H locs hw hT hE hP hD hS => ?_)
  · rcases hX _ _ _ hpx with rfl | rfl
    · refine ck_catch (own := RL) (name := NSE) hown [] ⟨0, 10, 13, 13⟩ [⟨0, 10, 17, 18⟩] (by rw [htab]; rfl) (fun z hz => nomatch hz) (by decide) (by decide) (hts (.classLink RL 13 NSE) (by decide +kernel)) (hev.2.2.1.1.use rfl) hce hcv hcl ?_
      refine W.eq (g2 := F0 m 13 ls [.ref q9]) rfl ?_
      refine lv_astore (lv' := [(4, .ref q9), (0, .ref x0), (1, .int p0), (2, .int p1), (3, .ref ou)]) hx hb dL_matching_13 hl (by decide) rfl (fun ls hl => ?_)
      refine lv_iconst (v := 1) hx hb dL_matching_15 (by decide) ?_
      exact M_i hx hb hr hlocks ((L9, f9), fo) hP hD hK hS ⟨hT.1, hE, Or.inr (Or.inl (⟨rfl, hpx⟩))⟩ (Nat.le_of_ble_eq_true rfl) (Nat.le_of_ble_eq_true rfl) dL_matching_16
    · refine ck_catch (own := RL) (name := IAE) hown [⟨0, 10, 13, 13⟩] ⟨0, 10, 17, 18⟩ [] (by rw [htab]; rfl) (fun z hz => by rcases List.mem_singleton.mp hz with rfl; exact Or.inr ⟨by decide, NSE, hts (.classLink RL 13 NSE) (by decide +kernel), hev.2.2.1.2.2⟩) (by decide) (by decide) (hts (.classLink RL 18 IAE) (by decide +kernel)) (hev.2.2.1.2.1.use rfl) hce hcv hcl ?_
      refine W.eq (g2 := F0 m 17 ls [.ref q9]) rfl ?_
      refine lv_astore (lv' := [(4, .ref q9), (0, .ref x0), (1, .int p0), (2, .int p1), (3, .ref ou)]) hx hb dL_matching_17 hl (by decide) rfl (fun ls hl => ?_)
      refine lv_iconst (v := 2) hx hb dL_matching_19 (by decide) ?_
      exact M_i hx hb hr hlocks ((L9, f9), fo) hP hD hK hS ⟨hT.1, hE, Or.inr (Or.inr (⟨rfl, hpx⟩))⟩ (Nat.le_of_ble_eq_true rfl) (Nat.le_of_ble_eq_true rfl) dL_matching_20
  obtain ⟨z_1, rfl⟩ := hpI _ _ _ hw
  refine W.eq (g2 := F0 m 8 ls [.int z_1, .int 0, .ref ou]) rfl ?_
  refine lv_i2l (v := (z_1).toInt64) hx hb dL_matching_8 rfl ?_
  refine N_lastX hx hb hK hP hD hS 11 rfl dL_matching_9 (fun fo_2 hfo_2 H locs hP hD hS => ?_)
  refine lv_goto (tgt := 21) hx hb dL_matching_10 (by decide) ?_
  refine lv_iconst (v := 0) hx hb dL_matching_21 (by decide) ?_
  exact M_i hx hb hr hlocks ((L8, f8), fo_2) hP hD hK hS ⟨hT.1, hE, Or.inl (⟨z_1, rfl, hw, hfo_2⟩)⟩ (Nat.le_of_ble_eq_true rfl) (Nat.le_of_ble_eq_true rfl) dL_matching_22
