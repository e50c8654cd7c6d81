noncomputable abbrev rm_wS_charge : Room := { frames := 8, cells := 1, slots := 6, locals := 126 }
set_option maxHeartbeats 800000 in
set_option maxRecDepth 100000 in
theorem wS_charge (l : Launch) (dC : Nat → ClassId) (dI : Nat → Nat → Nat) (sa : Nat → Nat) (g : Nat → Nat) (L : List Nat) (f : Nat → va_E) (x0 ou : Nat) (co : ClassId) (fo : Nat → Int64) (p0 p1 : Int32) (sz : Nat) {post : KPost} {px : String → List Nat → (Nat → va_E) → Prop} (hT : TP g L f [(x0, (0, 9, 0))]) (hM : ∀ sz : Nat, KX l dC dI sa g yX9_charge wsX9_charge rm_X9_chargeS [.ref x0, .int p0, .int p1] L f sz post px 1 6) (hpI : ∀ (r : Option Value) (L : List Nat) (f : Nat → va_E), post r L f → ∃ z : Int32, r = some (.int z)) (hX : ∀ (E : String) (L : List Nat) (f : Nat → va_E), px E L f → E = NSE) : CT l dC dI sa yL_charge wsL_charge rm_wS_charge [.ref x0, .int p0, .int p1, .ref ou] (va_pl L f ++ [(ou, .inl (co, 1, .inr (.inl fo)))]) (tyG g ++ [(co, .long)]) sz (fun r (u : PL × (Nat → Int64)) => WT g u.1.1 u.1.2 ∧ Ext L f u.1.1 u.1.2 ∧ ((∃ v : Int32, r = some (.int 0) ∧ post (some (.int v)) u.1.1 u.1.2 ∧ u.2 0 = v.toInt64) ∨ (r = some (.int 1) ∧ px NSE u.1.1 u.1.2))) (fun u => va_pl u.1.1 u.1.2 ++ [(ou, .inl (co, 1, .inr (.inl u.2)))]) (fun _ => []) 1 6 := by
  refine CT.startW (hh := [(0, 10, 13, 13)]) (cc := cL_charge) (maxL := 5) (ret := (some .int)) (by decide) rfl (Nat.le_of_ble_eq_true rfl) ?_
  intro p e s m below meth c ls hst htab hP hK hD hev hS hl
  obtain ⟨hx, hb, hr, hml, hts, hown, hlocks, hin⟩ := hst
  have hown : s.vm.findClass RL = some m.cls := hown
  have hA : ∀ q : Nat, s.heap.size ≤ q → va_A (va_pl L f ++ [(ou, .inl (co, 1, .inr (.inl fo)))]) s.heap.size q := fun _ h => Or.inr h
  have hl : lv_has ls 5 [(0, .ref x0), (1, .int p0), (2, .int p1), (3, .ref ou)] := hl
  refine lv_aload_n hx hb dL_charge_0 rfl (lv_at hl 3 rfl) ?_
  refine lv_iconst (v := 0) hx hb dL_charge_1 (by decide) ?_
  refine lv_aload_n hx hb dL_charge_2 rfl (lv_at hl 0 rfl) ?_
  refine lv_iload_n hx hb dL_charge_3 rfl (lv_at hl 1 rfl) ?_
  refine lv_iload_n hx hb dL_charge_4 rfl (lv_at hl 2 rfl) ?_
  refine NU_VX ⟨hx, hb, hml, hown, hts⟩ (hM _) (cwV 2 hts gL_charge_X9_charge rfl rfl rfl (by decide +kernel) ⟨Nat.le_of_ble_eq_true rfl, Nat.le_of_ble_eq_true rfl⟩) hP hD (hK.sub [0, 1, 2, 3, 4, 5, 6, 7, 8, 9, 10] rfl) hS hA hev hT 0 9 rfl rfl rfl rfl hl.1 rfl (Nat.le_of_ble_eq_true rfl) dL_charge_5 ⟨Nat.le_of_ble_eq_true rfl, Nat.le_of_ble_eq_true rfl⟩ (fun E ce q9 L9 f9 H locs hpx hT hE hP hD hS hce hcv hcl => ?_) (fun r L8 f8 H locs hw hT hE hP hD hS => ?_)
  · obtain rfl := hX _ _ _ hpx
    refine ck_catch (own := RL) (name := NSE) hown [] ⟨0, 10, 13, 13⟩ [] (by rw [htab]; rfl) (fun z hz => nomatch hz) (by decide) (by decide) (hts (.classLink RL 13 NSE) (by decide +kernel)) (hev.2.2.1.1.use rfl) hce hcv hcl ?_
    refine W.eq (g2 := F0 m 13 ls [.ref q9]) rfl ?_
    refine lv_astore (lv' := [(4, .ref q9), (0, .ref x0), (1, .int p0), (2, .int p1), (3, .ref ou)]) hx hb dL_charge_13 hl (by decide) rfl (fun ls hl => ?_)
    refine lv_iconst (v := 1) hx hb dL_charge_15 (by decide) ?_
    exact M_i hx hb hr hlocks ((L9, f9), fo) hP hD hK hS ⟨hT.1, hE, Or.inr (⟨rfl, hpx⟩)⟩ (Nat.le_of_ble_eq_true rfl) (Nat.le_of_ble_eq_true rfl) dL_charge_16
  obtain ⟨z_1, rfl⟩ := hpI _ _ _ hw
  refine W.eq (g2 := F0 m 8 ls [.int z_1, .int 0, .ref ou]) rfl ?_
  refine lv_i2l (v := (z_1).toInt64) hx hb dL_charge_8 rfl ?_
  refine N_lastX hx hb hK hP hD hS 11 rfl dL_charge_9 (fun fo_2 hfo_2 H locs hP hD hS => ?_)
  refine lv_goto (tgt := 17) hx hb dL_charge_10 (by decide) ?_
  refine lv_iconst (v := 0) hx hb dL_charge_17 (by decide) ?_
  exact M_i hx hb hr hlocks ((L8, f8), fo_2) hP hD hK hS ⟨hT.1, hE, Or.inl (⟨z_1, rfl, hw, hfo_2⟩)⟩ (Nat.le_of_ble_eq_true rfl) (Nat.le_of_ble_eq_true rfl) dL_charge_18

noncomputable abbrev rm_wS_feed : Room := { frames := 8, cells := 2, slots := 12, locals := 126 }
set_option maxHeartbeats 800000 in
set_option maxRecDepth 100000 in
theorem wS_feed (l : Launch) (dC : Nat → ClassId) (dI : Nat → Nat → Nat) (sa : Nat → Nat) (g : Nat → Nat) (L : List Nat) (f : Nat → va_E) (x0 ou : Nat) (co : ClassId) (fo : Nat → Int64) (p0 p1 : Int32) (sz : Nat) {post : KPost} {px : String → List Nat → (Nat → va_E) → Prop} (hT : TP g L f [(x0, (0, 9, 0))]) (hM : ∀ sz : Nat, KX l dC dI sa g yX9_feed wsX9_feed rm_X9_feedS [.ref x0, .int p0, .int p1] L f sz post px 2 12) (hpI : ∀ (r : Option Value) (L : List Nat) (f : Nat → va_E), post r L f → ∃ z : Int32, r = some (.int z)) (hX : ∀ (E : String) (L : List Nat) (f : Nat → va_E), px E L f → E = NSE ∨ E = IAE) : CT l dC dI sa yL_feed wsL_feed rm_wS_feed [.ref x0, .int p0, .int p1, .ref ou] (va_pl L f ++ [(ou, .inl (co, 1, .inr (.inl fo)))]) (tyG g ++ [(co, .long)]) sz (fun r (u : PL × (Nat → Int64)) => WT g u.1.1 u.1.2 ∧ Ext L f u.1.1 u.1.2 ∧ ((∃ v : Int32, r = some (.int 0) ∧ post (some (.int v)) u.1.1 u.1.2 ∧ u.2 0 = v.toInt64) ∨ (r = some (.int 1) ∧ px NSE u.1.1 u.1.2) ∨ (r = some (.int 2) ∧ px IAE u.1.1 u.1.2))) (fun u => va_pl u.1.1 u.1.2 ++ [(ou, .inl (co, 1, .inr (.inl u.2)))]) (fun _ => []) 2 12 := by
  refine CT.startW (hh := [(0, 10, 13, 13), (0, 10, 17, 18)]) (cc := cL_feed) (maxL := 5) (ret := (some .int)) (by decide) rfl (Nat.le_of_ble_eq_true rfl) ?_
  intro p e s m below meth c ls hst htab hP hK hD hev hS hl
  obtain ⟨hx, hb, hr, hml, hts, hown, hlocks, hin⟩ := hst
  have hown : s.vm.findClass RL = some m.cls := hown
  have hA : ∀ q : Nat, s.heap.size ≤ q → va_A (va_pl L f ++ [(ou, .inl (co, 1, .inr (.inl fo)))]) s.heap.size q := fun _ h => Or.inr h
  have hl : lv_has ls 5 [(0, .ref x0), (1, .int p0), (2, .int p1), (3, .ref ou)] := hl
  refine lv_aload_n hx hb dL_feed_0 rfl (lv_at hl 3 rfl) ?_
  refine lv_iconst (v := 0) hx hb dL_feed_1 (by decide) ?_
  refine lv_aload_n hx hb dL_feed_2 rfl (lv_at hl 0 rfl) ?_
  refine lv_iload_n hx hb dL_feed_3 rfl (lv_at hl 1 rfl) ?_
  refine lv_iload_n hx hb dL_feed_4 rfl (lv_at hl 2 rfl) ?_
  refine NU_VX ⟨hx, hb, hml, hown, hts⟩ (hM _) (cwV 2 hts gL_feed_X9_feed rfl rfl rfl (by decide +kernel) ⟨Nat.le_of_ble_eq_true rfl, Nat.le_of_ble_eq_true rfl⟩) hP hD (hK.sub [0, 1, 2, 3, 4, 5, 6, 7, 8, 9, 10] rfl) hS hA hev hT 0 9 rfl rfl rfl rfl hl.1 rfl (Nat.le_of_ble_eq_true rfl) dL_feed_5 ⟨Nat.le_of_ble_eq_true rfl, Nat.le_of_ble_eq_true rfl⟩ (fun E ce q9 L9 f9 H locs hpx hT hE hP hD hS hce hcv hcl => ?_) (fun r L8 f8 H locs hw hT hE hP hD hS => ?_)
  · rcases hX _ _ _ hpx with rfl | rfl
    · refine ck_catch (own := RL) (name := NSE) hown [] ⟨0, 10, 13, 13⟩ [⟨0, 10, 17, 18⟩] (by rw [htab]; rfl) (fun z hz => nomatch hz) (by decide) (by decide) (hts (.classLink RL 13 NSE) (by decide +kernel)) (hev.2.2.1.1.use rfl) hce hcv hcl ?_
      refine W.eq (g2 := F0 m 13 ls [.ref q9]) rfl ?_
      refine lv_astore (lv' := [(4, .ref q9), (0, .ref x0), (1, .int p0), (2, .int p1), (3, .ref ou)]) hx hb dL_feed_13 hl (by decide) rfl (fun ls hl => ?_)
      refine lv_iconst (v := 1) hx hb dL_feed_15 (by decide) ?_
      exact M_i hx hb hr hlocks ((L9, f9), fo) hP hD hK hS ⟨hT.1, hE, Or.inr (Or.inl (⟨rfl, hpx⟩))⟩ (Nat.le_of_ble_eq_true rfl) (Nat.le_of_ble_eq_true rfl) dL_feed_16
    · refine ck_catch (own := RL) (name := IAE) hown [⟨0, 10, 13, 13⟩] ⟨0, 10, 17, 18⟩ [] (by rw [htab]; rfl) (fun z hz => by rcases List.mem_singleton.mp hz with rfl; exact Or.inr ⟨by decide, NSE, hts (.classLink RL 13 NSE) (by decide +kernel), hev.2.2.1.2.2⟩) (by decide) (by decide) (hts (.classLink RL 18 IAE) (by decide +kernel)) (hev.2.2.1.2.1.use rfl) hce hcv hcl ?_
      refine W.eq (g2 := F0 m 17 ls [.ref q9]) rfl ?_
      refine lv_astore (lv' := [(4, .ref q9), (0, .ref x0), (1, .int p0), (2, .int p1), (3, .ref ou)]) hx hb dL_feed_17 hl (by decide) rfl (fun ls hl => ?_)
      refine lv_iconst (v := 2) hx hb dL_feed_19 (by decide) ?_
      exact M_i hx hb hr hlocks ((L9, f9), fo) hP hD hK hS ⟨hT.1, hE, Or.inr (Or.inr (⟨rfl, hpx⟩))⟩ (Nat.le_of_ble_eq_true rfl) (Nat.le_of_ble_eq_true rfl) dL_feed_20
  obtain ⟨z_1, rfl⟩ := hpI _ _ _ hw
  refine W.eq (g2 := F0 m 8 ls [.int z_1, .int 0, .ref ou]) rfl ?_
  refine lv_i2l (v := (z_1).toInt64) hx hb dL_feed_8 rfl ?_
  refine N_lastX hx hb hK hP hD hS 11 rfl dL_feed_9 (fun fo_2 hfo_2 H locs hP hD hS => ?_)
  refine lv_goto (tgt := 21) hx hb dL_feed_10 (by decide) ?_
  refine lv_iconst (v := 0) hx hb dL_feed_21 (by decide) ?_
  exact M_i hx hb hr hlocks ((L8, f8), fo_2) hP hD hK hS ⟨hT.1, hE, Or.inl (⟨z_1, rfl, hw, hfo_2⟩)⟩ (Nat.le_of_ble_eq_true rfl) (Nat.le_of_ble_eq_true rfl) dL_feed_22

noncomputable abbrev rm_wS_lime : Room := { frames := 8, cells := 1, slots := 6, locals := 125 }
set_option maxHeartbeats 800000 in
set_option maxRecDepth 100000 in
theorem wS_lime (l : Launch) (dC : Nat → ClassId) (dI : Nat → Nat → Nat) (sa : Nat → Nat) (g : Nat → Nat) (L : List Nat) (f : Nat → va_E) (x0 ou : Nat) (co : ClassId) (fo : Nat → Int64) (p0 : Int32) (sz : Nat) {post : KPost} {px : String → List Nat → (Nat → va_E) → Prop} (hT : TP g L f [(x0, (0, 9, 0))]) (hM : ∀ sz : Nat, KX l dC dI sa g yX9_lime wsX9_lime rm_X9_limeS [.ref x0, .int p0] L f sz post px 1 6) (hpI : ∀ (r : Option Value) (L : List Nat) (f : Nat → va_E), post r L f → ∃ z : Int32, r = some (.int z)) (hX : ∀ (E : String) (L : List Nat) (f : Nat → va_E), px E L f → E = NSE) : CT l dC dI sa yL_lime wsL_lime rm_wS_lime [.ref x0, .int p0, .ref ou] (va_pl L f ++ [(ou, .inl (co, 1, .inr (.inl fo)))]) (tyG g ++ [(co, .long)]) sz (fun r (u : PL × (Nat → Int64)) => WT g u.1.1 u.1.2 ∧ Ext L f u.1.1 u.1.2 ∧ ((∃ v : Int32, r = some (.int 0) ∧ post (some (.int v)) u.1.1 u.1.2 ∧ u.2 0 = v.toInt64) ∨ (r = some (.int 1) ∧ px NSE u.1.1 u.1.2))) (fun u => va_pl u.1.1 u.1.2 ++ [(ou, .inl (co, 1, .inr (.inl u.2)))]) (fun _ => []) 1 6 := by
  refine CT.startW (hh := [(0, 9, 12, 13)]) (cc := cL_lime) (maxL := 4) (ret := (some .int)) (by decide) rfl (Nat.le_of_ble_eq_true rfl) ?_
  intro p e s m below meth c ls hst htab hP hK hD hev hS hl
  obtain ⟨hx, hb, hr, hml, hts, hown, hlocks, hin⟩ := hst
  have hown : s.vm.findClass RL = some m.cls := hown
  have hA : ∀ q : Nat, s.heap.size ≤ q → va_A (va_pl L f ++ [(ou, .inl (co, 1, .inr (.inl fo)))]) s.heap.size q := fun _ h => Or.inr h
  have hl : lv_has ls 4 [(0, .ref x0), (1, .int p0), (2, .ref ou)] := hl
  refine lv_aload_n hx hb dL_lime_0 rfl (lv_at hl 2 rfl) ?_
  refine lv_iconst (v := 0) hx hb dL_lime_1 (by decide) ?_
  refine lv_aload_n hx hb dL_lime_2 rfl (lv_at hl 0 rfl) ?_
  refine lv_iload_n hx hb dL_lime_3 rfl (lv_at hl 1 rfl) ?_
  refine NU_VX ⟨hx, hb, hml, hown, hts⟩ (hM _) (cwV 1 hts gL_lime_X9_lime rfl rfl rfl (by decide +kernel) ⟨Nat.le_of_ble_eq_true rfl, Nat.le_of_ble_eq_true rfl⟩) hP hD (hK.sub [0, 1, 2, 3, 4, 5, 6, 7, 8, 9, 10] rfl) hS hA hev hT 0 9 rfl rfl rfl rfl hl.1 rfl (Nat.le_of_ble_eq_true rfl) dL_lime_4 ⟨Nat.le_of_ble_eq_true rfl, Nat.le_of_ble_eq_true rfl⟩ (fun E ce q9 L9 f9 H locs hpx hT hE hP hD hS hce hcv hcl => ?_) (fun r L8 f8 H locs hw hT hE hP hD hS => ?_)
  · obtain rfl := hX _ _ _ hpx
    refine ck_catch (own := RL) (name := NSE) hown [] ⟨0, 9, 12, 13⟩ [] (by rw [htab]; rfl) (fun z hz => nomatch hz) (by decide) (by decide) (hts (.classLink RL 13 NSE) (by decide +kernel)) (hev.2.2.1.1.use rfl) hce hcv hcl ?_
    refine W.eq (g2 := F0 m 12 ls [.ref q9]) rfl ?_
    refine lv_astore_n (lv' := [(3, .ref q9), (0, .ref x0), (1, .int p0), (2, .ref ou)]) hx hb dL_lime_12 rfl hl (by decide) rfl (fun ls hl => ?_)
    refine lv_iconst (v := 1) hx hb dL_lime_13 (by decide) ?_
    exact M_i hx hb hr hlocks ((L9, f9), fo) hP hD hK hS ⟨hT.1, hE, Or.inr (⟨rfl, hpx⟩)⟩ (Nat.le_of_ble_eq_true rfl) (Nat.le_of_ble_eq_true rfl) dL_lime_14
  obtain ⟨z_1, rfl⟩ := hpI _ _ _ hw
  refine W.eq (g2 := F0 m 7 ls [.int z_1, .int 0, .ref ou]) rfl ?_
  refine lv_i2l (v := (z_1).toInt64) hx hb dL_lime_7 rfl ?_
  refine N_lastX hx hb hK hP hD hS 11 rfl dL_lime_8 (fun fo_2 hfo_2 H locs hP hD hS => ?_)
  refine lv_goto (tgt := 15) hx hb dL_lime_9 (by decide) ?_
  refine lv_iconst (v := 0) hx hb dL_lime_15 (by decide) ?_
  exact M_i hx hb hr hlocks ((L8, f8), fo_2) hP hD hK hS ⟨hT.1, hE, Or.inl (⟨z_1, rfl, hw, hfo_2⟩)⟩ (Nat.le_of_ble_eq_true rfl) (Nat.le_of_ble_eq_true rfl) dL_lime_16

noncomputable abbrev rm_wS_treat : Room := { frames := 8, cells := 2, slots := 12, locals := 127 }
set_option maxHeartbeats 800000 in
set_option maxRecDepth 100000 in
theorem wS_treat (l : Launch) (dC : Nat → ClassId) (dI : Nat → Nat → Nat) (sa : Nat → Nat) (g : Nat → Nat) (L : List Nat) (f : Nat → va_E) (x0 ou : Nat) (co : ClassId) (fo : Nat → Int64) (p0 p1 : Int32) (sz : Nat) {post : KPost} {px : String → List Nat → (Nat → va_E) → Prop} (hT : TP g L f [(x0, (0, 9, 0))]) (hM : ∀ sz : Nat, KX l dC dI sa g yX9_treat wsX9_treat rm_X9_treatS [.ref x0, .int p0, .int p1] L f sz post px 2 12) (hpI : ∀ (r : Option Value) (L : List Nat) (f : Nat → va_E), post r L f → ∃ z : Int32, r = some (.int z)) (hX : ∀ (E : String) (L : List Nat) (f : Nat → va_E), px E L f → E = NSE ∨ E = IAE) : CT l dC dI sa yL_treat wsL_treat rm_wS_treat [.ref x0, .int p0, .int p1, .ref ou] (va_pl L f ++ [(ou, .inl (co, 1, .inr (.inl fo)))]) (tyG g ++ [(co, .long)]) sz (fun r (u : PL × (Nat → Int64)) => WT g u.1.1 u.1.2 ∧ Ext L f u.1.1 u.1.2 ∧ ((∃ v : Int32, r = some (.int 0) ∧ post (some (.int v)) u.1.1 u.1.2 ∧ u.2 0 = v.toInt64) ∨ (r = some (.int 1) ∧ px NSE u.1.1 u.1.2) ∨ (r = some (.int 2) ∧ px IAE u.1.1 u.1.2))) (fun u => va_pl u.1.1 u.1.2 ++ [(ou, .inl (co, 1, .inr (.inl u.2)))]) (fun _ => []) 2 12 := by
  refine CT.startW (hh := [(0, 10, 13, 13), (0, 10, 17, 18)]) (cc := cL_treat) (maxL := 5) (ret := (some .int)) (by decide) rfl (Nat.le_of_ble_eq_true rfl) ?_
  intro p e s m below meth c ls hst htab hP hK hD hev hS hl
  obtain ⟨hx, hb, hr, hml, hts, hown, hlocks, hin⟩ := hst
  have hown : s.vm.findClass RL = some m.cls := hown
  have hA : ∀ q : Nat, s.heap.size ≤ q → va_A (va_pl L f ++ [(ou, .inl (co, 1, .inr (.inl fo)))]) s.heap.size q := fun _ h => Or.inr h
  have hl : lv_has ls 5 [(0, .ref x0), (1, .int p0), (2, .int p1), (3, .ref ou)] := hl
  refine lv_aload_n hx hb dL_treat_0 rfl (lv_at hl 3 rfl) ?_
  refine lv_iconst (v := 0) hx hb dL_treat_1 (by decide) ?_
  refine lv_aload_n hx hb dL_treat_2 rfl (lv_at hl 0 rfl) ?_
  refine lv_iload_n hx hb dL_treat_3 rfl (lv_at hl 1 rfl) ?_
  refine lv_iload_n hx hb dL_treat_4 rfl (lv_at hl 2 rfl) ?_
  refine NU_VX ⟨hx, hb, hml, hown, hts⟩ (hM _) (cwV 2 hts gL_treat_X9_treat rfl rfl rfl (by decide +kernel) ⟨Nat.le_of_ble_eq_true rfl, Nat.le_of_ble_eq_true rfl⟩) hP hD (hK.sub [0, 1, 2, 3, 4, 5, 6, 7, 8, 9, 10] rfl) hS hA hev hT 0 9 rfl rfl rfl rfl hl.1 rfl (Nat.le_of_ble_eq_true rfl) dL_treat_5 ⟨Nat.le_of_ble_eq_true rfl, Nat.le_of_ble_eq_true rfl⟩ (fun E ce q9 L9 f9 H locs hpx hT hE hP hD hS hce hcv hcl => ?_) (fun r L8 f8 H locs hw hT hE hP hD hS => ?_)
  · rcases hX _ _ _ hpx with rfl | rfl
    · refine ck_catch (own := RL) (name := NSE) hown [] ⟨0, 10, 13, 13⟩ [⟨0, 10, 17, 18⟩] (by rw [htab]; rfl) (fun z hz => nomatch hz) (by decide) (by decide) (hts (.classLink RL 13 NSE) (by decide +kernel)) (hev.2.2.1.1.use rfl) hce hcv hcl ?_
      refine W.eq (g2 := F0 m 13 ls [.ref q9]) rfl ?_
      refine lv_astore (lv' := [(4, .ref q9), (0, .ref x0), (1, .int p0), (2, .int p1), (3, .ref ou)]) hx hb dL_treat_13 hl (by decide) rfl (fun ls hl => ?_)
      refine lv_iconst (v := 1) hx hb dL_treat_15 (by decide) ?_
      exact M_i hx hb hr hlocks ((L9, f9), fo) hP hD hK hS ⟨hT.1, hE, Or.inr (Or.inl (⟨rfl, hpx⟩))⟩ (Nat.le_of_ble_eq_true rfl) (Nat.le_of_ble_eq_true rfl) dL_treat_16
    · refine ck_catch (own := RL) (name := IAE) hown [⟨0, 10, 13, 13⟩] ⟨0, 10, 17, 18⟩ [] (by rw [htab]; rfl) (fun z hz => by rcases List.mem_singleton.mp hz with rfl; exact Or.inr ⟨by decide, NSE, hts (.classLink RL 13 NSE) (by decide +kernel), hev.2.2.1.2.2⟩) (by decide) (by decide) (hts (.classLink RL 18 IAE) (by decide +kernel)) (hev.2.2.1.2.1.use rfl) hce hcv hcl ?_
      refine W.eq (g2 := F0 m 17 ls [.ref q9]) rfl ?_
      refine lv_astore (lv' := [(4, .ref q9), (0, .ref x0), (1, .int p0), (2, .int p1), (3, .ref ou)]) hx hb dL_treat_17 hl (by decide) rfl (fun ls hl => ?_)
      refine lv_iconst (v := 2) hx hb dL_treat_19 (by decide) ?_
      exact M_i hx hb hr hlocks ((L9, f9), fo) hP hD hK hS ⟨hT.1, hE, Or.inr (Or.inr (⟨rfl, hpx⟩))⟩ (Nat.le_of_ble_eq_true rfl) (Nat.le_of_ble_eq_true rfl) dL_treat_20
  obtain ⟨z_1, rfl⟩ := hpI _ _ _ hw
  refine W.eq (g2 := F0 m 8 ls [.int z_1, .int 0, .ref ou]) rfl ?_
  refine lv_i2l (v := (z_1).toInt64) hx hb dL_treat_8 rfl ?_
  refine N_lastX hx hb hK hP hD hS 11 rfl dL_treat_9 (fun fo_2 hfo_2 H locs hP hD hS => ?_)
  refine lv_goto (tgt := 21) hx hb dL_treat_10 (by decide) ?_
  refine lv_iconst (v := 0) hx hb dL_treat_21 (by decide) ?_
  exact M_i hx hb hr hlocks ((L8, f8), fo_2) hP hD hK hS ⟨hT.1, hE, Or.inl (⟨z_1, rfl, hw, hfo_2⟩)⟩ (Nat.le_of_ble_eq_true rfl) (Nat.le_of_ble_eq_true rfl) dL_treat_22

noncomputable abbrev rm_wS_plan : Room := { frames := 29, cells := 2, slots := 12, locals := 674 }
set_option maxHeartbeats 800000 in
set_option maxRecDepth 100000 in
theorem wS_plan (l : Launch) (dC : Nat → ClassId) (dI : Nat → Nat → Nat) (sa : Nat → Nat) (g : Nat → Nat) (L : List Nat) (f : Nat → va_E) (x0 ou : Nat) (co : ClassId) (fo : Nat → Int64) (p0 p1 p2 p3 : Int32) (sz : Nat) {post : KPost} {px : String → List Nat → (Nat → va_E) → Prop} (hT : TP g L f [(x0, (0, 9, 0))]) (hM : ∀ sz : Nat, KX l dC dI sa g yX9_plan wsX9_plan rm_X9_planK [.ref x0, .int p0, .int p1, .int p2, .int p3] L f sz post px 2 12) (hpI : ∀ (r : Option Value) (L : List Nat) (f : Nat → va_E), post r L f → ∃ z : Int32, r = some (.int z)) (hX : ∀ (E : String) (L : List Nat) (f : Nat → va_E), px E L f → E = NSE ∨ E = IAE) : CT l dC dI sa yL_plan wsL_plan rm_wS_plan [.ref x0, .int p0, .int p1, .int p2, .int p3, .ref ou] (va_pl L f ++ [(ou, .inl (co, 1, .inr (.inl fo)))]) (tyG g ++ [(co, .long)]) sz (fun r (u : PL × (Nat → Int64)) => WT g u.1.1 u.1.2 ∧ Ext L f u.1.1 u.1.2 ∧ ((∃ v : Int32, r = some (.int 0) ∧ post (some (.int v)) u.1.1 u.1.2 ∧ u.2 0 = v.toInt64) ∨ (r = some (.int 1) ∧ px NSE u.1.1 u.1.2) ∨ (r = some (.int 2) ∧ px IAE u.1.1 u.1.2))) (fun u => va_pl u.1.1 u.1.2 ++ [(ou, .inl (co, 1, .inr (.inl u.2)))]) (fun _ => []) 2 12 := by
  refine CT.startW (hh := [(0, 14, 17, 13), (0, 14, 21, 18)]) (cc := cL_plan) (maxL := 7) (ret := (some .int)) (by decide) rfl (Nat.le_of_ble_eq_true rfl) ?_
  intro p e s m below meth c ls hst htab hP hK hD hev hS hl
  obtain ⟨hx, hb, hr, hml, hts, hown, hlocks, hin⟩ := hst
  have hown : s.vm.findClass RL = some m.cls := hown
  have hA : ∀ q : Nat, s.heap.size ≤ q → va_A (va_pl L f ++ [(ou, .inl (co, 1, .inr (.inl fo)))]) s.heap.size q := fun _ h => Or.inr h
  have hl : lv_has ls 7 [(0, .ref x0), (1, .int p0), (2, .int p1), (3, .int p2), (4, .int p3), (5, .ref ou)] := hl
  refine lv_aload hx hb dL_plan_0 (lv_at hl 5 rfl) ?_
  refine lv_iconst (v := 0) hx hb dL_plan_2 (by decide) ?_
  refine lv_aload_n hx hb dL_plan_3 rfl (lv_at hl 0 rfl) ?_
  refine lv_iload_n hx hb dL_plan_4 rfl (lv_at hl 1 rfl) ?_
  refine lv_iload_n hx hb dL_plan_5 rfl (lv_at hl 2 rfl) ?_
  refine lv_iload_n hx hb dL_plan_6 rfl (lv_at hl 3 rfl) ?_
  refine lv_iload hx hb dL_plan_7 (lv_at hl 4 rfl) ?_
  refine NU_VX ⟨hx, hb, hml, hown, hts⟩ (hM _) (cwV 4 hts gL_plan_X9_plan rfl rfl rfl (by decide +kernel) ⟨Nat.le_of_ble_eq_true rfl, Nat.le_of_ble_eq_true rfl⟩) hP hD (hK.sub [0, 1, 2, 3, 4, 5, 6, 7, 8, 9, 10] rfl) hS hA hev hT 0 9 rfl rfl rfl rfl hl.1 rfl (Nat.le_of_ble_eq_true rfl) dL_plan_9 ⟨Nat.le_of_ble_eq_true rfl, Nat.le_of_ble_eq_true rfl⟩ (fun E ce q9 L9 f9 H locs hpx hT hE hP hD hS hce hcv hcl => ?_) (fun r L8 f8 H locs hw hT hE hP hD hS => ?_)
  · rcases hX _ _ _ hpx with rfl | rfl
    · refine ck_catch (own := RL) (name := NSE) hown [] ⟨0, 14, 17, 13⟩ [⟨0, 14, 21, 18⟩] (by rw [htab]; rfl) (fun z hz => nomatch hz) (by decide) (by decide) (hts (.classLink RL 13 NSE) (by decide +kernel)) (hev.2.2.1.1.use rfl) hce hcv hcl ?_
      refine W.eq (g2 := F0 m 17 ls [.ref q9]) rfl ?_
      refine lv_astore (lv' := [(6, .ref q9), (0, .ref x0), (1, .int p0), (2, .int p1), (3, .int p2), (4, .int p3), (5, .ref ou)]) hx hb dL_plan_17 hl (by decide) rfl (fun ls hl => ?_)
      refine lv_iconst (v := 1) hx hb dL_plan_19 (by decide) ?_
      exact M_i hx hb hr hlocks ((L9, f9), fo) hP hD hK hS ⟨hT.1, hE, Or.inr (Or.inl (⟨rfl, hpx⟩))⟩ (Nat.le_of_ble_eq_true rfl) (Nat.le_of_ble_eq_true rfl) dL_plan_20
    · refine ck_catch (own := RL) (name := IAE) hown [⟨0, 14, 17, 13⟩] ⟨0, 14, 21, 18⟩ [] (by rw [htab]; rfl) (fun z hz => by rcases List.mem_singleton.mp hz with rfl; exact Or.inr ⟨by decide, NSE, hts (.classLink RL 13 NSE) (by decide +kernel), hev.2.2.1.2.2⟩) (by decide) (by decide) (hts (.classLink RL 18 IAE) (by decide +kernel)) (hev.2.2.1.2.1.use rfl) hce hcv hcl ?_
      refine W.eq (g2 := F0 m 21 ls [.ref q9]) rfl ?_
      refine lv_astore (lv' := [(6, .ref q9), (0, .ref x0), (1, .int p0), (2, .int p1), (3, .int p2), (4, .int p3), (5, .ref ou)]) hx hb dL_plan_21 hl (by decide) rfl (fun ls hl => ?_)
      refine lv_iconst (v := 2) hx hb dL_plan_23 (by decide) ?_
      exact M_i hx hb hr hlocks ((L9, f9), fo) hP hD hK hS ⟨hT.1, hE, Or.inr (Or.inr (⟨rfl, hpx⟩))⟩ (Nat.le_of_ble_eq_true rfl) (Nat.le_of_ble_eq_true rfl) dL_plan_24
  obtain ⟨z_1, rfl⟩ := hpI _ _ _ hw
  refine W.eq (g2 := F0 m 12 ls [.int z_1, .int 0, .ref ou]) rfl ?_
  refine lv_i2l (v := (z_1).toInt64) hx hb dL_plan_12 rfl ?_
  refine N_lastX hx hb hK hP hD hS 11 rfl dL_plan_13 (fun fo_2 hfo_2 H locs hP hD hS => ?_)
  refine lv_goto (tgt := 25) hx hb dL_plan_14 (by decide) ?_
  refine lv_iconst (v := 0) hx hb dL_plan_25 (by decide) ?_
  exact M_i hx hb hr hlocks ((L8, f8), fo_2) hP hD hK hS ⟨hT.1, hE, Or.inl (⟨z_1, rfl, hw, hfo_2⟩)⟩ (Nat.le_of_ble_eq_true rfl) (Nat.le_of_ble_eq_true rfl) dL_plan_26

noncomputable abbrev rm_wS_planned : Room := { frames := 7, cells := 1, slots := 6, locals := 104 }
set_option maxHeartbeats 800000 in
set_option maxRecDepth 100000 in
theorem wS_planned (l : Launch) (dC : Nat → ClassId) (dI : Nat → Nat → Nat) (sa : Nat → Nat) (g : Nat → Nat) (L : List Nat) (f : Nat → va_E) (x0 ou : Nat) (co : ClassId) (fo : Nat → Int64) (p0 p1 : Int32) (sz : Nat) {post : KPost} {px : String → List Nat → (Nat → va_E) → Prop} (hT : TP g L f [(x0, (0, 9, 0))]) (hM : ∀ sz : Nat, KX l dC dI sa g yX9_planned wsX9_planned rm_X9_plannedK [.ref x0, .int p0, .int p1] L f sz post px 1 6) (hpI : ∀ (r : Option Value) (L : List Nat) (f : Nat → va_E), post r L f → ∃ z : Int32, r = some (.int z)) (hX : ∀ (E : String) (L : List Nat) (f : Nat → va_E), px E L f → E = NSE) : CT l dC dI sa yL_planned wsL_planned rm_wS_planned [.ref x0, .int p0, .int p1, .ref ou] (va_pl L f ++ [(ou, .inl (co, 1, .inr (.inl fo)))]) (tyG g ++ [(co, .long)]) sz (fun r (u : PL × (Nat → Int64)) => WT g u.1.1 u.1.2 ∧ Ext L f u.1.1 u.1.2 ∧ ((∃ v : Int32, r = some (.int 0) ∧ post (some (.int v)) u.1.1 u.1.2 ∧ u.2 0 = v.toInt64) ∨ (r = some (.int 1) ∧ px NSE u.1.1 u.1.2))) (fun u => va_pl u.1.1 u.1.2 ++ [(ou, .inl (co, 1, .inr (.inl u.2)))]) (fun _ => []) 1 6 := by
  refine CT.startW (hh := [(0, 10, 13, 13)]) (cc := cL_planned) (maxL := 5) (ret := (some .int)) (by decide) rfl (Nat.le_of_ble_eq_true rfl) ?_
  intro p e s m below meth c ls hst htab hP hK hD hev hS hl
  obtain ⟨hx, hb, hr, hml, hts, hown, hlocks, hin⟩ := hst
  have hown : s.vm.findClass RL = some m.cls := hown
  have hA : ∀ q : Nat, s.heap.size ≤ q → va_A (va_pl L f ++ [(ou, .inl (co, 1, .inr (.inl fo)))]) s.heap.size q := fun _ h => Or.inr h
  have hl : lv_has ls 5 [(0, .ref x0), (1, .int p0), (2, .int p1), (3, .ref ou)] := hl
  refine lv_aload_n hx hb dL_planned_0 rfl (lv_at hl 3 rfl) ?_
  refine lv_iconst (v := 0) hx hb dL_planned_1 (by decide) ?_
  refine lv_aload_n hx hb dL_planned_2 rfl (lv_at hl 0 rfl) ?_
  refine lv_iload_n hx hb dL_planned_3 rfl (lv_at hl 1 rfl) ?_
  refine lv_iload_n hx hb dL_planned_4 rfl (lv_at hl 2 rfl) ?_
  refine NU_VX ⟨hx, hb, hml, hown, hts⟩ (hM _) (cwV 2 hts gL_planned_X9_planned rfl rfl rfl (by decide +kernel) ⟨Nat.le_of_ble_eq_true rfl, Nat.le_of_ble_eq_true rfl⟩) hP hD (hK.sub [0, 1, 2, 3, 4, 5, 6, 7, 8, 9, 10] rfl) hS hA hev hT 0 9 rfl rfl rfl rfl hl.1 rfl (Nat.le_of_ble_eq_true rfl) dL_planned_5 ⟨Nat.le_of_ble_eq_true rfl, Nat.le_of_ble_eq_true rfl⟩ (fun E ce q9 L9 f9 H locs hpx hT hE hP hD hS hce hcv hcl => ?_) (fun r L8 f8 H locs hw hT hE hP hD hS => ?_)
  · obtain rfl := hX _ _ _ hpx
    refine ck_catch (own := RL) (name := NSE) hown [] ⟨0, 10, 13, 13⟩ [] (by rw [htab]; rfl) (fun z hz => nomatch hz) (by decide) (by decide) (hts (.classLink RL 13 NSE) (by decide +kernel)) (hev.2.2.1.1.use rfl) hce hcv hcl ?_
    refine W.eq (g2 := F0 m 13 ls [.ref q9]) rfl ?_
    refine lv_astore (lv' := [(4, .ref q9), (0, .ref x0), (1, .int p0), (2, .int p1), (3, .ref ou)]) hx hb dL_planned_13 hl (by decide) rfl (fun ls hl => ?_)
    refine lv_iconst (v := 1) hx hb dL_planned_15 (by decide) ?_
    exact M_i hx hb hr hlocks ((L9, f9), fo) hP hD hK hS ⟨hT.1, hE, Or.inr (⟨rfl, hpx⟩)⟩ (Nat.le_of_ble_eq_true rfl) (Nat.le_of_ble_eq_true rfl) dL_planned_16
  obtain ⟨z_1, rfl⟩ := hpI _ _ _ hw
  refine W.eq (g2 := F0 m 8 ls [.int z_1, .int 0, .ref ou]) rfl ?_
  refine lv_i2l (v := (z_1).toInt64) hx hb dL_planned_8 rfl ?_
  refine N_lastX hx hb hK hP hD hS 11 rfl dL_planned_9 (fun fo_2 hfo_2 H locs hP hD hS => ?_)
  refine lv_goto (tgt := 17) hx hb dL_planned_10 (by decide) ?_
  refine lv_iconst (v := 0) hx hb dL_planned_17 (by decide) ?_
  exact M_i hx hb hr hlocks ((L8, f8), fo_2) hP hD hK hS ⟨hT.1, hE, Or.inl (⟨z_1, rfl, hw, hfo_2⟩)⟩ (Nat.le_of_ble_eq_true rfl) (Nat.le_of_ble_eq_true rfl) dL_planned_18
