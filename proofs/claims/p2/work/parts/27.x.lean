section SBX
variable {p : Program} {l : Launch} {e : Env} {R : Room} {s : State} {m : MethodId} {args : Array Value} {below : List Frame} {meth : Method} {c : Code} {H : Heap} {locs : List Loc} {cells slots : Nat} {Q : State → Prop}
variable {dC : Nat → ClassId} {dI : Nat → Nat → Nat} {sa : Nat → Nat} {A : Nat → Prop} {w rw : va_W} {tys : List (ClassId × FieldType)} {S : Type} {post : Option Value → S → Prop} {wB : S → va_W}
variable {y : MethodName} {bytes cc : ByteArray} {maxL nL mc ms n index : Nat} {ret : Option FieldType} {ws : List Cond} {rm : Room} {Ts : List Cond} {own Cn : String} {b : Addr} {As rest st0 : List Value} {pc : Nat} {ls : Array Slot} {av : List Value}
variable {g : Nat → Nat} {L : List Nat} {f : Nat → va_E} {rs : List (Nat × shp)} {kp : KPost} {px : String → List Nat → (Nat → va_E) → Prop}
theorem N_lastX (hx : p.tables.exec = Jvm.exec) (hb : c.code = cc) {H0 : Heap} (hK : va_K (dC, dI) vwCl tys s) {u : va_W} {ou : Nat} {co : ClassId} {fo : Nat → Int64} (hP : va_P (dC, dI) vwCl (u ++ [(ou, .inl (co, 1, .inr (.inl fo)))]) H) (hD : va_D A (u ++ [(ou, .inl (co, 1, .inr (.inl fo)))])) (hS : va_S A H0 H locs) (t0 : Nat) (ht : tys[t0]? = some (co, .long)) {x : Int64} (hdg : decode cc pc = .ok (.lastore, 1))
    (kk : ∀ (fo' : Nat → Int64), fo' 0 = x → ∀ (H1 : Heap) (locs1 : List Loc), va_P (dC, dI) vwCl (u ++ [(ou, .inl (co, 1, .inr (.inl fo')))]) H1 → va_D A (u ++ [(ou, .inl (co, 1, .inr (.inl fo')))]) → va_S A H0 H1 locs1 → W p l e R s m args below meth c H1 locs1 cells slots Q (F0 m (pc + 1) ls rest)) : W p l e R s m args below meth c H locs cells slots Q (F0 m pc ls (.long x :: .int 0 :: .ref ou :: rest)) := by
  have hat : (u ++ [(ou, (Sum.inl (co, 1, .inr (.inl fo)) : va_E))])[u.length]? = some (ou, .inl (co, 1, .inr (.inl fo))) := by simp
  refine va_last hx hb hK hP hD hS u.length t0 hat ht (i := 0) (by unfold vp_in; decide) hdg fun H1 locs1 h1 h2 h3 => ?_
  rw [List.set_append_right _ _ (Nat.le_refl _), Nat.sub_self] at h1 h2
  exact kk _ (by show vp_updL fo 0 x 0 = x; unfold vp_updL; exact if_pos rfl) H1 locs1 h1 h2 h3
end SBX

abbrev rm_L_charge : Room := { frames := 8, cells := 1, slots := 6, locals := 126 }
set_option maxHeartbeats 800000 in
set_option maxRecDepth 100000 in
theorem w_charge (l : Launch) (dC : Nat → ClassId) (dI : Nat → Nat → Nat) (sa : Nat → Nat) (hlt : l.stackTraces = false) (g : Nat → Nat) (L : List Nat) (f : Nat → va_E) (x0 rdr tok tp ka sta vaa ou : Nat) (co : ClassId) (fo : Nat → Int64) (p0 p1 tl fa pw : Int32) (tt : Nat → Int32) (sz : Nat) (hT : TP g L f (RLs g (x0, rdr, tok, tp, ka, sta, vaa))) (hRF : RF (x0, rdr, tok, tp, ka, sta, vaa) f) (hCN : CN (x0, rdr, tok, tp, ka, sta, vaa) f tl fa pw tt) (htl15 : tl.toInt ≤ 1500) : CT l dC dI sa yL_charge wsL_charge rm_L_charge [.ref x0, .int p0, .int p1, .ref ou] (va_pl L f ++ [(ou, .inl (co, 1, .inr (.inl fo)))]) (tyG g ++ [(co, .long)]) sz (fun r (u : PL × (Nat → Int64)) => (∃ z : Int32, r = some (.int z)) ∧ WT g u.1.1 u.1.2 ∧ Ext L f u.1.1 u.1.2 ∧ RF (x0, rdr, tok, tp, ka, sta, vaa) u.1.2 ∧ CN (x0, rdr, tok, tp, ka, sta, vaa) u.1.2 tl fa pw tt) (fun u => va_pl u.1.1 u.1.2 ++ [(ou, .inl (co, 1, .inr (.inl u.2)))]) (fun _ => []) 1 6 := by
  refine CT.startW (hh := [(0, 10, 13, 13)]) (cc := cL_charge) (maxL := 5) (ret := (some .int)) (by decide) rfl (Nat.le_of_ble_eq_true rfl) ?_
  intro p e s m below meth c ls hst htab hP hK hD hev hS hl
  obtain ⟨hx, hb, hr, hml, hts, hown, hlocks, hin⟩ := hst
  have hown : s.vm.findClass RL = some m.cls := hown
  have hA : ∀ q : Nat, s.heap.size ≤ q → va_A (va_pl L f ++ [(ou, .inl (co, 1, .inr (.inl fo)))]) s.heap.size q := fun _ h => Or.inr h
  have hl : lv_has ls 5 [(0, .ref x0), (1, .int p0), (2, .int p1), (3, .ref ou)] := hl
  have hT0 := hT
  refine lv_aload_n hx hb dL_charge_0 rfl (lv_at hl 3 rfl) ?_
  refine lv_iconst (v := 0) hx hb dL_charge_1 (by decide) ?_
  refine lv_aload_n hx hb dL_charge_2 rfl (lv_at hl 0 rfl) ?_
  refine lv_iload_n hx hb dL_charge_3 rfl (lv_at hl 1 rfl) ?_
  refine lv_iload_n hx hb dL_charge_4 rfl (lv_at hl 2 rfl) ?_
  refine NU_VX ⟨hx, hb, hml, hown, hts⟩ (t_X9_charge l dC dI sa hlt g _ _ x0 p0 p1 _ (hT.sub [0] rfl)) (cwV 2 hts gL_charge_X9_charge rfl rfl rfl (by decide +kernel) ⟨Nat.le_of_ble_eq_true rfl, Nat.le_of_ble_eq_true rfl⟩) hP hD (hK.sub [0, 1, 2, 3, 4, 5, 6, 7, 8, 9, 10] rfl) hS hA hev hT 0 9 rfl rfl rfl rfl hl.1 rfl (Nat.le_of_ble_eq_true rfl) dL_charge_5 ⟨Nat.le_of_ble_eq_true rfl, Nat.le_of_ble_eq_true rfl⟩ (fun E ce q9 L9 f9 H locs hpx hT hE hP hD hS hce hcv hcl => ?_) (fun r L8 f8 H locs hw hT hE hP hD hS => ?_)
  · obtain ⟨rfl, hFx⟩ := hpx
    have hRF9 := hRF.fr hT0 hFx (by decide)
    have hCN9 := hCN.fr hT0 hFx (by decide)
    refine ck_catch (own := RL) (name := NSE) hown [] ⟨0, 10, 13, 13⟩ [] (by rw [htab]; rfl) (fun z hz => nomatch hz) (by decide) (by decide) (hts (.classLink RL 13 NSE) (by decide +kernel)) (hev.2.2.1.1.use rfl) hce hcv hcl ?_
    refine W.eq (g2 := F0 m 13 ls [.ref q9]) rfl ?_
    refine lv_astore (lv' := [(4, .ref q9), (0, .ref x0), (1, .int p0), (2, .int p1), (3, .ref ou)]) hx hb dL_charge_13 hl (by decide) rfl (fun ls hl => ?_)
    refine lv_iconst (v := 1) hx hb dL_charge_15 (by decide) ?_
    exact M_i hx hb hr hlocks ((L9, f9), fo) hP hD hK hS ⟨⟨_, rfl⟩, hT.1, hE, hRF9, hCN9⟩ (Nat.le_of_ble_eq_true rfl) (Nat.le_of_ble_eq_true rfl) dL_charge_16
  obtain ⟨⟨z_1, rfl⟩, hFr⟩ := hw
  have hRF9 := hRF.fr hT0 hFr (by decide)
  have hCN9 := hCN.fr hT0 hFr (by decide)
  refine W.eq (g2 := F0 m 8 ls [.int z_1, .int 0, .ref ou]) rfl ?_
  refine lv_i2l (v := (z_1).toInt64) hx hb dL_charge_8 rfl ?_
  refine N_lastX hx hb hK hP hD hS 11 rfl dL_charge_9 (fun fo_2 hfo_2 H locs hP hD hS => ?_)
  refine lv_goto (tgt := 17) hx hb dL_charge_10 (by decide) ?_
  refine lv_iconst (v := 0) hx hb dL_charge_17 (by decide) ?_
  exact M_i hx hb hr hlocks ((L8, f8), fo_2) hP hD hK hS ⟨⟨_, rfl⟩, hT.1, hE, hRF9, hCN9⟩ (Nat.le_of_ble_eq_true rfl) (Nat.le_of_ble_eq_true rfl) dL_charge_18

abbrev rm_L_feed : Room := { frames := 8, cells := 2, slots := 12, locals := 126 }
set_option maxHeartbeats 800000 in
set_option maxRecDepth 100000 in
theorem w_feed (l : Launch) (dC : Nat → ClassId) (dI : Nat → Nat → Nat) (sa : Nat → Nat) (hlt : l.stackTraces = false) (g : Nat → Nat) (L : List Nat) (f : Nat → va_E) (x0 rdr tok tp ka sta vaa ou : Nat) (co : ClassId) (fo : Nat → Int64) (p0 p1 tl fa pw : Int32) (tt : Nat → Int32) (sz : Nat) (hT : TP g L f (RLs g (x0, rdr, tok, tp, ka, sta, vaa))) (hRF : RF (x0, rdr, tok, tp, ka, sta, vaa) f) (hCN : CN (x0, rdr, tok, tp, ka, sta, vaa) f tl fa pw tt) (htl15 : tl.toInt ≤ 1500) : CT l dC dI sa yL_feed wsL_feed rm_L_feed [.ref x0, .int p0, .int p1, .ref ou] (va_pl L f ++ [(ou, .inl (co, 1, .inr (.inl fo)))]) (tyG g ++ [(co, .long)]) sz (fun r (u : PL × (Nat → Int64)) => (∃ z : Int32, r = some (.int z)) ∧ WT g u.1.1 u.1.2 ∧ Ext L f u.1.1 u.1.2 ∧ RF (x0, rdr, tok, tp, ka, sta, vaa) u.1.2 ∧ CN (x0, rdr, tok, tp, ka, sta, vaa) u.1.2 tl fa pw tt) (fun u => va_pl u.1.1 u.1.2 ++ [(ou, .inl (co, 1, .inr (.inl u.2)))]) (fun _ => []) 2 12 := by
  refine CT.startW (hh := [(0, 10, 13, 13), (0, 10, 17, 18)]) (cc := cL_feed) (maxL := 5) (ret := (some .int)) (by decide) rfl (Nat.le_of_ble_eq_true rfl) ?_
  intro p e s m below meth c ls hst htab hP hK hD hev hS hl
  obtain ⟨hx, hb, hr, hml, hts, hown, hlocks, hin⟩ := hst
  have hown : s.vm.findClass RL = some m.cls := hown
  have hA : ∀ q : Nat, s.heap.size ≤ q → va_A (va_pl L f ++ [(ou, .inl (co, 1, .inr (.inl fo)))]) s.heap.size q := fun _ h => Or.inr h
  have hl : lv_has ls 5 [(0, .ref x0), (1, .int p0), (2, .int p1), (3, .ref ou)] := hl
  have hT0 := hT
  refine lv_aload_n hx hb dL_feed_0 rfl (lv_at hl 3 rfl) ?_
  refine lv_iconst (v := 0) hx hb dL_feed_1 (by decide) ?_
  refine lv_aload_n hx hb dL_feed_2 rfl (lv_at hl 0 rfl) ?_
  refine lv_iload_n hx hb dL_feed_3 rfl (lv_at hl 1 rfl) ?_
  refine lv_iload_n hx hb dL_feed_4 rfl (lv_at hl 2 rfl) ?_
  refine NU_VX ⟨hx, hb, hml, hown, hts⟩ (t_X9_feed l dC dI sa hlt g _ _ x0 p0 p1 _ (hT.sub [0] rfl)) (cwV 2 hts gL_feed_X9_feed rfl rfl rfl (by decide +kernel) ⟨Nat.le_of_ble_eq_true rfl, Nat.le_of_ble_eq_true rfl⟩) hP hD (hK.sub [0, 1, 2, 3, 4, 5, 6, 7, 8, 9, 10] rfl) hS hA hev hT 0 9 rfl rfl rfl rfl hl.1 rfl (Nat.le_of_ble_eq_true rfl) dL_feed_5 ⟨Nat.le_of_ble_eq_true rfl, Nat.le_of_ble_eq_true rfl⟩ (fun E ce q9 L9 f9 H locs hpx hT hE hP hD hS hce hcv hcl => ?_) (fun r L8 f8 H locs hw hT hE hP hD hS => ?_)
  · obtain ⟨rfl | rfl, hFx⟩ := hpx
    · have hRF9 := hRF.fr hT0 hFx (by decide)
      have hCN9 := hCN.fr hT0 hFx (by decide)
      refine ck_catch (own := RL) (name := NSE) hown [] ⟨0, 10, 13, 13⟩ [⟨0, 10, 17, 18⟩] (by rw [htab]; rfl) (fun z hz => nomatch hz) (by decide) (by decide) (hts (.classLink RL 13 NSE) (by decide +kernel)) (hev.2.2.1.1.use rfl) hce hcv hcl ?_
      refine W.eq (g2 := F0 m 13 ls [.ref q9]) rfl ?_
      refine lv_astore (lv' := [(4, .ref q9), (0, .ref x0), (1, .int p0), (2, .int p1), (3, .ref ou)]) hx hb dL_feed_13 hl (by decide) rfl (fun ls hl => ?_)
      refine lv_iconst (v := 1) hx hb dL_feed_15 (by decide) ?_
      exact M_i hx hb hr hlocks ((L9, f9), fo) hP hD hK hS ⟨⟨_, rfl⟩, hT.1, hE, hRF9, hCN9⟩ (Nat.le_of_ble_eq_true rfl) (Nat.le_of_ble_eq_true rfl) dL_feed_16
    · have hRF9 := hRF.fr hT0 hFx (by decide)
      have hCN9 := hCN.fr hT0 hFx (by decide)
      refine ck_catch (own := RL) (name := IAE) hown [⟨0, 10, 13, 13⟩] ⟨0, 10, 17, 18⟩ [] (by rw [htab]; rfl) (fun z hz => by rcases List.mem_singleton.mp hz with rfl; exact Or.inr ⟨by decide, NSE, hts (.classLink RL 13 NSE) (by decide +kernel), hev.2.2.1.2.2⟩) (by decide) (by decide) (hts (.classLink RL 18 IAE) (by decide +kernel)) (hev.2.2.1.2.1.use rfl) hce hcv hcl ?_
      refine W.eq (g2 := F0 m 17 ls [.ref q9]) rfl ?_
      refine lv_astore (lv' := [(4, .ref q9), (0, .ref x0), (1, .int p0), (2, .int p1), (3, .ref ou)]) hx hb dL_feed_17 hl (by decide) rfl (fun ls hl => ?_)
      refine lv_iconst (v := 2) hx hb dL_feed_19 (by decide) ?_
      exact M_i hx hb hr hlocks ((L9, f9), fo) hP hD hK hS ⟨⟨_, rfl⟩, hT.1, hE, hRF9, hCN9⟩ (Nat.le_of_ble_eq_true rfl) (Nat.le_of_ble_eq_true rfl) dL_feed_20
  obtain ⟨⟨z_1, rfl⟩, hFr⟩ := hw
  have hRF9 := hRF.fr hT0 hFr (by decide)
  have hCN9 := hCN.fr hT0 hFr (by decide)
  refine W.eq (g2 := F0 m 8 ls [.int z_1, .int 0, .ref ou]) rfl ?_
  refine lv_i2l (v := (z_1).toInt64) hx hb dL_feed_8 rfl ?_
  refine N_lastX hx hb hK hP hD hS 11 rfl dL_feed_9 (fun fo_2 hfo_2 H locs hP hD hS => ?_)
  refine lv_goto (tgt := 21) hx hb dL_feed_10 (by decide) ?_
  refine lv_iconst (v := 0) hx hb dL_feed_21 (by decide) ?_
  exact M_i hx hb hr hlocks ((L8, f8), fo_2) hP hD hK hS ⟨⟨_, rfl⟩, hT.1, hE, hRF9, hCN9⟩ (Nat.le_of_ble_eq_true rfl) (Nat.le_of_ble_eq_true rfl) dL_feed_22

abbrev rm_L_lime : Room := { frames := 8, cells := 1, slots := 6, locals := 125 }
set_option maxHeartbeats 800000 in
set_option maxRecDepth 100000 in
theorem w_lime (l : Launch) (dC : Nat → ClassId) (dI : Nat → Nat → Nat) (sa : Nat → Nat) (hlt : l.stackTraces = false) (g : Nat → Nat) (L : List Nat) (f : Nat → va_E) (x0 rdr tok tp ka sta vaa ou : Nat) (co : ClassId) (fo : Nat → Int64) (p0 tl fa pw : Int32) (tt : Nat → Int32) (sz : Nat) (hT : TP g L f (RLs g (x0, rdr, tok, tp, ka, sta, vaa))) (hRF : RF (x0, rdr, tok, tp, ka, sta, vaa) f) (hCN : CN (x0, rdr, tok, tp, ka, sta, vaa) f tl fa pw tt) (htl15 : tl.toInt ≤ 1500) : CT l dC dI sa yL_lime wsL_lime rm_L_lime [.ref x0, .int p0, .ref ou] (va_pl L f ++ [(ou, .inl (co, 1, .inr (.inl fo)))]) (tyG g ++ [(co, .long)]) sz (fun r (u : PL × (Nat → Int64)) => (∃ z : Int32, r = some (.int z)) ∧ WT g u.1.1 u.1.2 ∧ Ext L f u.1.1 u.1.2 ∧ RF (x0, rdr, tok, tp, ka, sta, vaa) u.1.2 ∧ CN (x0, rdr, tok, tp, ka, sta, vaa) u.1.2 tl fa pw tt) (fun u => va_pl u.1.1 u.1.2 ++ [(ou, .inl (co, 1, .inr (.inl u.2)))]) (fun _ => []) 1 6 := by
  refine CT.startW (hh := [(0, 9, 12, 13)]) (cc := cL_lime) (maxL := 4) (ret := (some .int)) (by decide) rfl (Nat.le_of_ble_eq_true rfl) ?_
  intro p e s m below meth c ls hst htab hP hK hD hev hS hl
  obtain ⟨hx, hb, hr, hml, hts, hown, hlocks, hin⟩ := hst
  have hown : s.vm.findClass RL = some m.cls := hown
  have hA : ∀ q : Nat, s.heap.size ≤ q → va_A (va_pl L f ++ [(ou, .inl (co, 1, .inr (.inl fo)))]) s.heap.size q := fun _ h => Or.inr h
  have hl : lv_has ls 4 [(0, .ref x0), (1, .int p0), (2, .ref ou)] := hl
  have hT0 := hT
  refine lv_aload_n hx hb dL_lime_0 rfl (lv_at hl 2 rfl) ?_
  refine lv_iconst (v := 0) hx hb dL_lime_1 (by decide) ?_
  refine lv_aload_n hx hb dL_lime_2 rfl (lv_at hl 0 rfl) ?_
  refine lv_iload_n hx hb dL_lime_3 rfl (lv_at hl 1 rfl) ?_
  refine NU_VX ⟨hx, hb, hml, hown, hts⟩ (t_X9_lime l dC dI sa hlt g _ _ x0 p0 _ (hT.sub [0] rfl)) (cwV 1 hts gL_lime_X9_lime rfl rfl rfl (by decide +kernel) ⟨Nat.le_of_ble_eq_true rfl, Nat.le_of_ble_eq_true rfl⟩) hP hD (hK.sub [0, 1, 2, 3, 4, 5, 6, 7, 8, 9, 10] rfl) hS hA hev hT 0 9 rfl rfl rfl rfl hl.1 rfl (Nat.le_of_ble_eq_true rfl) dL_lime_4 ⟨Nat.le_of_ble_eq_true rfl, Nat.le_of_ble_eq_true rfl⟩ (fun E ce q9 L9 f9 H locs hpx hT hE hP hD hS hce hcv hcl => ?_) (fun r L8 f8 H locs hw hT hE hP hD hS => ?_)
  · obtain ⟨rfl, hFx⟩ := hpx
    have hRF9 := hRF.fr hT0 hFx (by decide)
    have hCN9 := hCN.fr hT0 hFx (by decide)
    refine ck_catch (own := RL) (name := NSE) hown [] ⟨0, 9, 12, 13⟩ [] (by rw [htab]; rfl) (fun z hz => nomatch hz) (by decide) (by decide) (hts (.classLink RL 13 NSE) (by decide +kernel)) (hev.2.2.1.1.use rfl) hce hcv hcl ?_
    refine W.eq (g2 := F0 m 12 ls [.ref q9]) rfl ?_
    refine lv_astore_n (lv' := [(3, .ref q9), (0, .ref x0), (1, .int p0), (2, .ref ou)]) hx hb dL_lime_12 rfl hl (by decide) rfl (fun ls hl => ?_)
    refine lv_iconst (v := 1) hx hb dL_lime_13 (by decide) ?_
    exact M_i hx hb hr hlocks ((L9, f9), fo) hP hD hK hS ⟨⟨_, rfl⟩, hT.1, hE, hRF9, hCN9⟩ (Nat.le_of_ble_eq_true rfl) (Nat.le_of_ble_eq_true rfl) dL_lime_14
  obtain ⟨⟨z_1, rfl⟩, hFr⟩ := hw
  have hRF9 := hRF.fr hT0 hFr (by decide)
  have hCN9 := hCN.fr hT0 hFr (by decide)
  refine W.eq (g2 := F0 m 7 ls [.int z_1, .int 0, .ref ou]) rfl ?_
  refine lv_i2l (v := (z_1).toInt64) hx hb dL_lime_7 rfl ?_
  refine N_lastX hx hb hK hP hD hS 11 rfl dL_lime_8 (fun fo_2 hfo_2 H locs hP hD hS => ?_)
  refine lv_goto (tgt := 15) hx hb dL_lime_9 (by decide) ?_
  refine lv_iconst (v := 0) hx hb dL_lime_15 (by decide) ?_
  exact M_i hx hb hr hlocks ((L8, f8), fo_2) hP hD hK hS ⟨⟨_, rfl⟩, hT.1, hE, hRF9, hCN9⟩ (Nat.le_of_ble_eq_true rfl) (Nat.le_of_ble_eq_true rfl) dL_lime_16

abbrev rm_L_hours : Room := { frames := 8, cells := 1, slots := 6, locals := 123 }
set_option maxHeartbeats 800000 in
set_option maxRecDepth 100000 in
theorem w_hours (l : Launch) (dC : Nat → ClassId) (dI : Nat → Nat → Nat) (sa : Nat → Nat) (hlt : l.stackTraces = false) (g : Nat → Nat) (L : List Nat) (f : Nat → va_E) (x0 rdr tok tp ka sta vaa ou : Nat) (co : ClassId) (fo : Nat → Int64) (p0 tl fa pw : Int32) (tt : Nat → Int32) (sz : Nat) (hT : TP g L f (RLs g (x0, rdr, tok, tp, ka, sta, vaa))) (hRF : RF (x0, rdr, tok, tp, ka, sta, vaa) f) (hCN : CN (x0, rdr, tok, tp, ka, sta, vaa) f tl fa pw tt) (htl15 : tl.toInt ≤ 1500) : CT l dC dI sa yL_hours wsL_hours rm_L_hours [.ref x0, .int p0, .ref ou] (va_pl L f ++ [(ou, .inl (co, 1, .inr (.inl fo)))]) (tyG g ++ [(co, .long)]) sz (fun r (u : PL × (Nat → Int64)) => (∃ z : Int32, r = some (.int z)) ∧ WT g u.1.1 u.1.2 ∧ Ext L f u.1.1 u.1.2 ∧ RF (x0, rdr, tok, tp, ka, sta, vaa) u.1.2 ∧ CN (x0, rdr, tok, tp, ka, sta, vaa) u.1.2 tl fa pw tt) (fun u => va_pl u.1.1 u.1.2 ++ [(ou, .inl (co, 1, .inr (.inl u.2)))]) (fun _ => []) 1 6 := by
  refine CT.startW (hh := [(0, 9, 12, 18)]) (cc := cL_hours) (maxL := 4) (ret := (some .int)) (by decide) rfl (Nat.le_of_ble_eq_true rfl) ?_
  intro p e s m below meth c ls hst htab hP hK hD hev hS hl
  obtain ⟨hx, hb, hr, hml, hts, hown, hlocks, hin⟩ := hst
  have hown : s.vm.findClass RL = some m.cls := hown
  have hA : ∀ q : Nat, s.heap.size ≤ q → va_A (va_pl L f ++ [(ou, .inl (co, 1, .inr (.inl fo)))]) s.heap.size q := fun _ h => Or.inr h
  have hl : lv_has ls 4 [(0, .ref x0), (1, .int p0), (2, .ref ou)] := hl
  have hT0 := hT
  refine lv_aload_n hx hb dL_hours_0 rfl (lv_at hl 2 rfl) ?_
  refine lv_iconst (v := 0) hx hb dL_hours_1 (by decide) ?_
  refine lv_aload_n hx hb dL_hours_2 rfl (lv_at hl 0 rfl) ?_
  refine lv_iload_n hx hb dL_hours_3 rfl (lv_at hl 1 rfl) ?_
  refine NU_VX ⟨hx, hb, hml, hown, hts⟩ (t_X9_hours l dC dI sa hlt g _ _ x0 p0 _ (hT.sub [0] rfl)) (cwV 1 hts gL_hours_X9_hours rfl rfl rfl (by decide +kernel) ⟨Nat.le_of_ble_eq_true rfl, Nat.le_of_ble_eq_true rfl⟩) hP hD (hK.sub [0, 1, 2, 3, 4, 5, 6, 7, 8, 9, 10] rfl) hS hA hev hT 0 9 rfl rfl rfl rfl hl.1 rfl (Nat.le_of_ble_eq_true rfl) dL_hours_4 ⟨Nat.le_of_ble_eq_true rfl, Nat.le_of_ble_eq_true rfl⟩ (fun E ce q9 L9 f9 H locs hpx hT hE hP hD hS hce hcv hcl => ?_) (fun r L8 f8 H locs hw hT hE hP hD hS => ?_)
  · obtain ⟨rfl, hFx⟩ := hpx
    have hRF9 := hRF.fr hT0 hFx (by decide)
    have hCN9 := hCN.fr hT0 hFx (by decide)
    refine ck_catch (own := RL) (name := IAE) hown [] ⟨0, 9, 12, 18⟩ [] (by rw [htab]; rfl) (fun z hz => nomatch hz) (by decide) (by decide) (hts (.classLink RL 18 IAE) (by decide +kernel)) (hev.2.2.1.2.1.use rfl) hce hcv hcl ?_
    refine W.eq (g2 := F0 m 12 ls [.ref q9]) rfl ?_
    refine lv_astore_n (lv' := [(3, .ref q9), (0, .ref x0), (1, .int p0), (2, .ref ou)]) hx hb dL_hours_12 rfl hl (by decide) rfl (fun ls hl => ?_)
    refine lv_iconst (v := 1) hx hb dL_hours_13 (by decide) ?_
    exact M_i hx hb hr hlocks ((L9, f9), fo) hP hD hK hS ⟨⟨_, rfl⟩, hT.1, hE, hRF9, hCN9⟩ (Nat.le_of_ble_eq_true rfl) (Nat.le_of_ble_eq_true rfl) dL_hours_14
  obtain ⟨⟨z_1, rfl⟩, hFr⟩ := hw
  have hRF9 := hRF.fr hT0 hFr (by decide)
  have hCN9 := hCN.fr hT0 hFr (by decide)
  refine W.eq (g2 := F0 m 7 ls [.int z_1, .int 0, .ref ou]) rfl ?_
  refine lv_i2l (v := (z_1).toInt64) hx hb dL_hours_7 rfl ?_
  refine N_lastX hx hb hK hP hD hS 11 rfl dL_hours_8 (fun fo_2 hfo_2 H locs hP hD hS => ?_)
  refine lv_goto (tgt := 15) hx hb dL_hours_9 (by decide) ?_
  refine lv_iconst (v := 0) hx hb dL_hours_15 (by decide) ?_
  exact M_i hx hb hr hlocks ((L8, f8), fo_2) hP hD hK hS ⟨⟨_, rfl⟩, hT.1, hE, hRF9, hCN9⟩ (Nat.le_of_ble_eq_true rfl) (Nat.le_of_ble_eq_true rfl) dL_hours_16

abbrev rm_L_dip : Room := { frames := 8, cells := 3, slots := 18, locals := 130 }
set_option maxHeartbeats 800000 in
set_option maxRecDepth 100000 in
theorem w_dip (l : Launch) (dC : Nat → ClassId) (dI : Nat → Nat → Nat) (sa : Nat → Nat) (hlt : l.stackTraces = false) (g : Nat → Nat) (L : List Nat) (f : Nat → va_E) (x0 rdr tok tp ka sta vaa ou : Nat) (co : ClassId) (fo : Nat → Int64) (p0 p1 p2 tl fa pw : Int32) (tt : Nat → Int32) (sz : Nat) (hT : TP g L f (RLs g (x0, rdr, tok, tp, ka, sta, vaa))) (hRF : RF (x0, rdr, tok, tp, ka, sta, vaa) f) (hCN : CN (x0, rdr, tok, tp, ka, sta, vaa) f tl fa pw tt) (htl15 : tl.toInt ≤ 1500) : CT l dC dI sa yL_dip wsL_dip rm_L_dip [.ref x0, .int p0, .int p1, .int p2, .ref ou] (va_pl L f ++ [(ou, .inl (co, 1, .inr (.inl fo)))]) (tyG g ++ [(co, .long)]) sz (fun r (u : PL × (Nat → Int64)) => (∃ z : Int32, r = some (.int z)) ∧ WT g u.1.1 u.1.2 ∧ Ext L f u.1.1 u.1.2 ∧ RF (x0, rdr, tok, tp, ka, sta, vaa) u.1.2 ∧ CN (x0, rdr, tok, tp, ka, sta, vaa) u.1.2 tl fa pw tt) (fun u => va_pl u.1.1 u.1.2 ++ [(ou, .inl (co, 1, .inr (.inl u.2)))]) (fun _ => []) 3 18 := by
  refine CT.startW (hh := [(0, 12, 15, 13), (0, 12, 19, 18)]) (cc := cL_dip) (maxL := 6) (ret := (some .int)) (by decide) rfl (Nat.le_of_ble_eq_true rfl) ?_
  intro p e s m below meth c ls hst htab hP hK hD hev hS hl
  obtain ⟨hx, hb, hr, hml, hts, hown, hlocks, hin⟩ := hst
  have hown : s.vm.findClass RL = some m.cls := hown
  have hA : ∀ q : Nat, s.heap.size ≤ q → va_A (va_pl L f ++ [(ou, .inl (co, 1, .inr (.inl fo)))]) s.heap.size q := fun _ h => Or.inr h
  have hl : lv_has ls 6 [(0, .ref x0), (1, .int p0), (2, .int p1), (3, .int p2), (4, .ref ou)] := hl
  have hT0 := hT
  refine lv_aload hx hb dL_dip_0 (lv_at hl 4 rfl) ?_
  refine lv_iconst (v := 0) hx hb dL_dip_2 (by decide) ?_
  refine lv_aload_n hx hb dL_dip_3 rfl (lv_at hl 0 rfl) ?_
  refine lv_iload_n hx hb dL_dip_4 rfl (lv_at hl 1 rfl) ?_
  refine lv_iload_n hx hb dL_dip_5 rfl (lv_at hl 2 rfl) ?_
  refine lv_iload_n hx hb dL_dip_6 rfl (lv_at hl 3 rfl) ?_
  refine NU_VX ⟨hx, hb, hml, hown, hts⟩ (t_X9_dip l dC dI sa hlt g _ _ x0 p0 p1 p2 _ (hT.sub [0] rfl)) (cwV 3 hts gL_dip_X9_dip rfl rfl rfl (by decide +kernel) ⟨Nat.le_of_ble_eq_true rfl, Nat.le_of_ble_eq_true rfl⟩) hP hD (hK.sub [0, 1, 2, 3, 4, 5, 6, 7, 8, 9, 10] rfl) hS hA hev hT 0 9 rfl rfl rfl rfl hl.1 rfl (Nat.le_of_ble_eq_true rfl) dL_dip_7 ⟨Nat.le_of_ble_eq_true rfl, Nat.le_of_ble_eq_true rfl⟩ (fun E ce q9 L9 f9 H locs hpx hT hE hP hD hS hce hcv hcl => ?_) (fun r L8 f8 H locs hw hT hE hP hD hS => ?_)
  · obtain ⟨rfl | rfl, hFx⟩ := hpx
    · have hRF9 := hRF.fr hT0 hFx (by decide)
      have hCN9 := hCN.fr hT0 hFx (by decide)
      refine ck_catch (own := RL) (name := NSE) hown [] ⟨0, 12, 15, 13⟩ [⟨0, 12, 19, 18⟩] (by rw [htab]; rfl) (fun z hz => nomatch hz) (by decide) (by decide) (hts (.classLink RL 13 NSE) (by decide +kernel)) (hev.2.2.1.1.use rfl) hce hcv hcl ?_
      refine W.eq (g2 := F0 m 15 ls [.ref q9]) rfl ?_
      refine lv_astore (lv' := [(5, .ref q9), (0, .ref x0), (1, .int p0), (2, .int p1), (3, .int p2), (4, .ref ou)]) hx hb dL_dip_15 hl (by decide) rfl (fun ls hl => ?_)
      refine lv_iconst (v := 1) hx hb dL_dip_17 (by decide) ?_
      exact M_i hx hb hr hlocks ((L9, f9), fo) hP hD hK hS ⟨⟨_, rfl⟩, hT.1, hE, hRF9, hCN9⟩ (Nat.le_of_ble_eq_true rfl) (Nat.le_of_ble_eq_true rfl) dL_dip_18
    · have hRF9 := hRF.fr hT0 hFx (by decide)
      have hCN9 := hCN.fr hT0 hFx (by decide)
      refine ck_catch (own := RL) (name := IAE) hown [⟨0, 12, 15, 13⟩] ⟨0, 12, 19, 18⟩ [] (by rw [htab]; rfl) (fun z hz => by rcases List.mem_singleton.mp hz with rfl; exact Or.inr ⟨by decide, NSE, hts (.classLink RL 13 NSE) (by decide +kernel), hev.2.2.1.2.2⟩) (by decide) (by decide) (hts (.classLink RL 18 IAE) (by decide +kernel)) (hev.2.2.1.2.1.use rfl) hce hcv hcl ?_
      refine W.eq (g2 := F0 m 19 ls [.ref q9]) rfl ?_
      refine lv_astore (lv' := [(5, .ref q9), (0, .ref x0), (1, .int p0), (2, .int p1), (3, .int p2), (4, .ref ou)]) hx hb dL_dip_19 hl (by decide) rfl (fun ls hl => ?_)
      refine lv_iconst (v := 2) hx hb dL_dip_21 (by decide) ?_
      exact M_i hx hb hr hlocks ((L9, f9), fo) hP hD hK hS ⟨⟨_, rfl⟩, hT.1, hE, hRF9, hCN9⟩ (Nat.le_of_ble_eq_true rfl) (Nat.le_of_ble_eq_true rfl) dL_dip_22
  obtain ⟨⟨z_1, rfl⟩, hFr⟩ := hw
  have hRF9 := hRF.fr hT0 hFr (by decide)
  have hCN9 := hCN.fr hT0 hFr (by decide)
  refine W.eq (g2 := F0 m 10 ls [.int z_1, .int 0, .ref ou]) rfl ?_
  refine lv_i2l (v := (z_1).toInt64) hx hb dL_dip_10 rfl ?_
  refine N_lastX hx hb hK hP hD hS 11 rfl dL_dip_11 (fun fo_2 hfo_2 H locs hP hD hS => ?_)
  refine lv_goto (tgt := 23) hx hb dL_dip_12 (by decide) ?_
  refine lv_iconst (v := 0) hx hb dL_dip_23 (by decide) ?_
  exact M_i hx hb hr hlocks ((L8, f8), fo_2) hP hD hK hS ⟨⟨_, rfl⟩, hT.1, hE, hRF9, hCN9⟩ (Nat.le_of_ble_eq_true rfl) (Nat.le_of_ble_eq_true rfl) dL_dip_24

abbrev rm_L_treat : Room := { frames := 8, cells := 2, slots := 12, locals := 127 }
set_option maxHeartbeats 800000 in
set_option maxRecDepth 100000 in
theorem w_treat (l : Launch) (dC : Nat → ClassId) (dI : Nat → Nat → Nat) (sa : Nat → Nat) (hlt : l.stackTraces = false) (g : Nat → Nat) (L : List Nat) (f : Nat → va_E) (x0 rdr tok tp ka sta vaa ou : Nat) (co : ClassId) (fo : Nat → Int64) (p0 p1 tl fa pw : Int32) (tt : Nat → Int32) (sz : Nat) (hT : TP g L f (RLs g (x0, rdr, tok, tp, ka, sta, vaa))) (hRF : RF (x0, rdr, tok, tp, ka, sta, vaa) f) (hCN : CN (x0, rdr, tok, tp, ka, sta, vaa) f tl fa pw tt) (htl15 : tl.toInt ≤ 1500) : CT l dC dI sa yL_treat wsL_treat rm_L_treat [.ref x0, .int p0, .int p1, .ref ou] (va_pl L f ++ [(ou, .inl (co, 1, .inr (.inl fo)))]) (tyG g ++ [(co, .long)]) sz (fun r (u : PL × (Nat → Int64)) => (∃ z : Int32, r = some (.int z)) ∧ WT g u.1.1 u.1.2 ∧ Ext L f u.1.1 u.1.2 ∧ RF (x0, rdr, tok, tp, ka, sta, vaa) u.1.2 ∧ CN (x0, rdr, tok, tp, ka, sta, vaa) u.1.2 tl fa pw tt) (fun u => va_pl u.1.1 u.1.2 ++ [(ou, .inl (co, 1, .inr (.inl u.2)))]) (fun _ => []) 2 12 := by
  refine CT.startW (hh := [(0, 10, 13, 13), (0, 10, 17, 18)]) (cc := cL_treat) (maxL := 5) (ret := (some .int)) (by decide) rfl (Nat.le_of_ble_eq_true rfl) ?_
  intro p e s m below meth c ls hst htab hP hK hD hev hS hl
  obtain ⟨hx, hb, hr, hml, hts, hown, hlocks, hin⟩ := hst
  have hown : s.vm.findClass RL = some m.cls := hown
  have hA : ∀ q : Nat, s.heap.size ≤ q → va_A (va_pl L f ++ [(ou, .inl (co, 1, .inr (.inl fo)))]) s.heap.size q := fun _ h => Or.inr h
  have hl : lv_has ls 5 [(0, .ref x0), (1, .int p0), (2, .int p1), (3, .ref ou)] := hl
  have hT0 := hT
  refine lv_aload_n hx hb dL_treat_0 rfl (lv_at hl 3 rfl) ?_
  refine lv_iconst (v := 0) hx hb dL_treat_1 (by decide) ?_
  refine lv_aload_n hx hb dL_treat_2 rfl (lv_at hl 0 rfl) ?_
  refine lv_iload_n hx hb dL_treat_3 rfl (lv_at hl 1 rfl) ?_
  refine lv_iload_n hx hb dL_treat_4 rfl (lv_at hl 2 rfl) ?_
  refine NU_VX ⟨hx, hb, hml, hown, hts⟩ (t_X9_treat l dC dI sa hlt g _ _ x0 p0 p1 _ (hT.sub [0] rfl)) (cwV 2 hts gL_treat_X9_treat rfl rfl rfl (by decide +kernel) ⟨Nat.le_of_ble_eq_true rfl, Nat.le_of_ble_eq_true rfl⟩) hP hD (hK.sub [0, 1, 2, 3, 4, 5, 6, 7, 8, 9, 10] rfl) hS hA hev hT 0 9 rfl rfl rfl rfl hl.1 rfl (Nat.le_of_ble_eq_true rfl) dL_treat_5 ⟨Nat.le_of_ble_eq_true rfl, Nat.le_of_ble_eq_true rfl⟩ (fun E ce q9 L9 f9 H locs hpx hT hE hP hD hS hce hcv hcl => ?_) (fun r L8 f8 H locs hw hT hE hP hD hS => ?_)
  · obtain ⟨rfl | rfl, hFx⟩ := hpx
    · have hRF9 := hRF.fr hT0 hFx (by decide)
      have hCN9 := hCN.fr hT0 hFx (by decide)
      refine ck_catch (own := RL) (name := NSE) hown [] ⟨0, 10, 13, 13⟩ [⟨0, 10, 17, 18⟩] (by rw [htab]; rfl) (fun z hz => nomatch hz) (by decide) (by decide) (hts (.classLink RL 13 NSE) (by decide +kernel)) (hev.2.2.1.1.use rfl) hce hcv hcl ?_
      refine W.eq (g2 := F0 m 13 ls [.ref q9]) rfl ?_
      refine lv_astore (lv' := [(4, .ref q9), (0, .ref x0), (1, .int p0), (2, .int p1), (3, .ref ou)]) hx hb dL_treat_13 hl (by decide) rfl (fun ls hl => ?_)
      refine lv_iconst (v := 1) hx hb dL_treat_15 (by decide) ?_
      exact M_i hx hb hr hlocks ((L9, f9), fo) hP hD hK hS ⟨⟨_, rfl⟩, hT.1, hE, hRF9, hCN9⟩ (Nat.le_of_ble_eq_true rfl) (Nat.le_of_ble_eq_true rfl) dL_treat_16
    · have hRF9 := hRF.fr hT0 hFx (by decide)
      have hCN9 := hCN.fr hT0 hFx (by decide)
      refine ck_catch (own := RL) (name := IAE) hown [⟨0, 10, 13, 13⟩] ⟨0, 10, 17, 18⟩ [] (by rw [htab]; rfl) (fun z hz => by rcases List.mem_singleton.mp hz with rfl; exact Or.inr ⟨by decide, NSE, hts (.classLink RL 13 NSE) (by decide +kernel), hev.2.2.1.2.2⟩) (by decide) (by decide) (hts (.classLink RL 18 IAE) (by decide +kernel)) (hev.2.2.1.2.1.use rfl) hce hcv hcl ?_
      refine W.eq (g2 := F0 m 17 ls [.ref q9]) rfl ?_
      refine lv_astore (lv' := [(4, .ref q9), (0, .ref x0), (1, .int p0), (2, .int p1), (3, .ref ou)]) hx hb dL_treat_17 hl (by decide) rfl (fun ls hl => ?_)
      refine lv_iconst (v := 2) hx hb dL_treat_19 (by decide) ?_
      exact M_i hx hb hr hlocks ((L9, f9), fo) hP hD hK hS ⟨⟨_, rfl⟩, hT.1, hE, hRF9, hCN9⟩ (Nat.le_of_ble_eq_true rfl) (Nat.le_of_ble_eq_true rfl) dL_treat_20
  obtain ⟨⟨z_1, rfl⟩, hFr⟩ := hw
  have hRF9 := hRF.fr hT0 hFr (by decide)
  have hCN9 := hCN.fr hT0 hFr (by decide)
  refine W.eq (g2 := F0 m 8 ls [.int z_1, .int 0, .ref ou]) rfl ?_
  refine lv_i2l (v := (z_1).toInt64) hx hb dL_treat_8 rfl ?_
  refine N_lastX hx hb hK hP hD hS 11 rfl dL_treat_9 (fun fo_2 hfo_2 H locs hP hD hS => ?_)
  refine lv_goto (tgt := 21) hx hb dL_treat_10 (by decide) ?_
  refine lv_iconst (v := 0) hx hb dL_treat_21 (by decide) ?_
  exact M_i hx hb hr hlocks ((L8, f8), fo_2) hP hD hK hS ⟨⟨_, rfl⟩, hT.1, hE, hRF9, hCN9⟩ (Nat.le_of_ble_eq_true rfl) (Nat.le_of_ble_eq_true rfl) dL_treat_22

abbrev rm_L_recipe : Room := { frames := 82, cells := 303, slots := 2415, locals := 2445 }
set_option maxHeartbeats 800000 in
set_option maxRecDepth 100000 in
theorem w_recipe (l : Launch) (dC : Nat → ClassId) (dI : Nat → Nat → Nat) (sa : Nat → Nat) (hlt : l.stackTraces = false) (g : Nat → Nat) (L : List Nat) (f : Nat → va_E) (x0 rdr tok tp ka sta vaa ou : Nat) (co : ClassId) (fo : Nat → Int64) (p0 p1 tl fa pw : Int32) (tt : Nat → Int32) (sz : Nat) (hT : TP g L f (RLs g (x0, rdr, tok, tp, ka, sta, vaa))) (hRF : RF (x0, rdr, tok, tp, ka, sta, vaa) f) (hCN : CN (x0, rdr, tok, tp, ka, sta, vaa) f tl fa pw tt) (htl15 : tl.toInt ≤ 1500) : CT l dC dI sa yL_recipe wsL_recipe rm_L_recipe [.ref x0, .int p0, .int p1, .ref ou] (va_pl L f ++ [(ou, .inl (co, 1, .inr (.inl fo)))]) (tyG g ++ [(co, .long)]) sz (fun r (u : PL × (Nat → Int64)) => (∃ z : Int32, r = some (.int z)) ∧ WT g u.1.1 u.1.2 ∧ Ext L f u.1.1 u.1.2 ∧ RF (x0, rdr, tok, tp, ka, sta, vaa) u.1.2 ∧ ((Cq p0 p1 tl ∧ r = some (.int 0) ∧ ∃ fa2 pw2 : Int32, CN (x0, rdr, tok, tp, ka, sta, vaa) u.1.2 0 fa2 pw2 tt ∧ u.2 0 = fa2.toInt64 ∧ ∃ (ln : Nat) (qn : SG), p1 = nI ln ∧ ln ≤ 1500 ∧ Ev (Kp tt ln) (Vp tt ln) (nq tt ln) 0 0 (Sj tt ln 0, 0, 0, -1) qn ∧ fa2 = (gpa (Kp tt ln) (nq tt ln) 0 qn).2.2.1 ∧ pw2 = (gpa (Kp tt ln) (nq tt ln) 0 qn).2.2.2) ∨ (¬ Cq p0 p1 tl ∧ r = some (.int 1) ∧ CN (x0, rdr, tok, tp, ka, sta, vaa) u.1.2 tl fa pw tt))) (fun u => va_pl u.1.1 u.1.2 ++ [(ou, .inl (co, 1, .inr (.inl u.2)))]) (fun _ => []) 303 2415 := by
  refine CT.startW (hh := [(0, 10, 13, 18)]) (cc := cL_recipe) (maxL := 5) (ret := (some .int)) (by decide) rfl (Nat.le_of_ble_eq_true rfl) ?_
  intro p e s m below meth c ls hst htab hP hK hD hev hS hl
  obtain ⟨hx, hb, hr, hml, hts, hown, hlocks, hin⟩ := hst
  have hown : s.vm.findClass RL = some m.cls := hown
  have hA : ∀ q : Nat, s.heap.size ≤ q → va_A (va_pl L f ++ [(ou, .inl (co, 1, .inr (.inl fo)))]) s.heap.size q := fun _ h => Or.inr h
  have hl : lv_has ls 5 [(0, .ref x0), (1, .int p0), (2, .int p1), (3, .ref ou)] := hl
  have hT0 := hT
  refine lv_aload_n hx hb dL_recipe_0 rfl (lv_at hl 3 rfl) ?_
  refine lv_iconst (v := 0) hx hb dL_recipe_1 (by decide) ?_
  refine lv_aload_n hx hb dL_recipe_2 rfl (lv_at hl 0 rfl) ?_
  refine lv_iload_n hx hb dL_recipe_3 rfl (lv_at hl 1 rfl) ?_
  refine lv_iload_n hx hb dL_recipe_4 rfl (lv_at hl 2 rfl) ?_
  refine NU_VX ⟨hx, hb, hml, hown, hts⟩ (t_X9_recipeX l dC dI sa hlt g _ _ tt x0 p0 p1 tp rdr tok ka sta vaa tl _ (hT.sub [0, 3, 1, 2, 4, 5, 6] rfl) hCN.1 hRF.1.1 hRF.1.2.1 hRF.1.2.2.1 hRF.1.2.2.2.1 hRF.1.2.2.2.2.1 hRF.1.2.2.2.2.2.1 hRF.1.2.2.2.2.2.2 hCN.2.2.2 htl15 hRF.2) (cwV 2 hts gL_recipe_X9_recipe rfl rfl rfl (by decide +kernel) ⟨Nat.le_of_ble_eq_true rfl, Nat.le_of_ble_eq_true rfl⟩) hP hD (hK.sub [0, 1, 2, 3, 4, 5, 6, 7, 8, 9, 10] rfl) hS hA hev hT 0 9 rfl rfl rfl rfl hl.1 rfl (Nat.le_of_ble_eq_true rfl) dL_recipe_5 ⟨Nat.le_of_ble_eq_true rfl, Nat.le_of_ble_eq_true rfl⟩ (fun E ce q9 L9 f9 H locs hpx hT hE hP hD hS hce hcv hcl => ?_) (fun r L8 f8 H locs hw hT hE hP hD hS => ?_)
  · obtain ⟨⟨rfl, hnq⟩, hFx⟩ := hpx
    have hRF9 := hRF.fr hT0 hFx (by decide)
    have hCN9 := hCN.fr hT0 hFx (by decide)
    refine ck_catch (own := RL) (name := IAE) hown [] ⟨0, 10, 13, 18⟩ [] (by rw [htab]; rfl) (fun z hz => nomatch hz) (by decide) (by decide) (hts (.classLink RL 18 IAE) (by decide +kernel)) (hev.2.2.1.2.1.use rfl) hce hcv hcl ?_
    refine W.eq (g2 := F0 m 13 ls [.ref q9]) rfl ?_
    refine lv_astore (lv' := [(4, .ref q9), (0, .ref x0), (1, .int p0), (2, .int p1), (3, .ref ou)]) hx hb dL_recipe_13 hl (by decide) rfl (fun ls hl => ?_)
    refine lv_iconst (v := 1) hx hb dL_recipe_15 (by decide) ?_
    exact M_i hx hb hr hlocks ((L9, f9), fo) hP hD hK hS ⟨⟨_, rfl⟩, hT.1, hE, hRF9, Or.inr ⟨hnq, rfl, hCN9⟩⟩ (Nat.le_of_ble_eq_true rfl) (Nat.le_of_ble_eq_true rfl) dL_recipe_16
  obtain ⟨⟨z_1, rfl⟩, hFr, tl2, fa2, pw2, h5, h3, h4, ⟨hcq, htl0⟩, -, -, ln, qn, g1, g2, g3, g4, g5, g6⟩ := hw
  obtain rfl := sv g6
  subst htl0
  have hRF9 := hRF.fr hT0 hFr (by decide)
  have hCN9 : CN (x0, rdr, tok, tp, ka, sta, vaa) f8 0 _ pw2 tt := ⟨h5, h3, h4, (ia_eq (hFr.2 tp (hT0.at 3 rfl).1 0 _ _ (hT0.at 3 rfl).2 (by decide))).trans hCN.2.2.2⟩
  refine W.eq (g2 := F0 m 8 ls [.int z_1, .int 0, .ref ou]) rfl ?_
  refine lv_i2l (v := (z_1).toInt64) hx hb dL_recipe_8 rfl ?_
  refine N_lastX hx hb hK hP hD hS 11 rfl dL_recipe_9 (fun fo_2 hfo_2 H locs hP hD hS => ?_)
  refine lv_goto (tgt := 17) hx hb dL_recipe_10 (by decide) ?_
  refine lv_iconst (v := 0) hx hb dL_recipe_17 (by decide) ?_
  exact M_i hx hb hr hlocks ((L8, f8), fo_2) hP hD hK hS ⟨⟨_, rfl⟩, hT.1, hE, hRF9, Or.inl ⟨hcq, rfl, _, pw2, hCN9, hfo_2, ln, qn, g1, g2, g3, g4, g5⟩⟩ (Nat.le_of_ble_eq_true rfl) (Nat.le_of_ble_eq_true rfl) dL_recipe_18

abbrev rm_L_fault : Room := { frames := 7, cells := 1, slots := 6, locals := 103 }
set_option maxHeartbeats 800000 in
set_option maxRecDepth 100000 in
theorem w_fault (l : Launch) (dC : Nat → ClassId) (dI : Nat → Nat → Nat) (sa : Nat → Nat) (hlt : l.stackTraces = false) (g : Nat → Nat) (L : List Nat) (f : Nat → va_E) (x0 rdr tok tp ka sta vaa ou : Nat) (co : ClassId) (fo : Nat → Int64) (p0 tl fa pw : Int32) (tt : Nat → Int32) (sz : Nat) (hT : TP g L f (RLs g (x0, rdr, tok, tp, ka, sta, vaa))) (hRF : RF (x0, rdr, tok, tp, ka, sta, vaa) f) (hCN : CN (x0, rdr, tok, tp, ka, sta, vaa) f tl fa pw tt) (htl15 : tl.toInt ≤ 1500) : CT l dC dI sa yL_fault wsL_fault rm_L_fault [.ref x0, .int p0, .ref ou] (va_pl L f ++ [(ou, .inl (co, 1, .inr (.inl fo)))]) (tyG g ++ [(co, .long)]) sz (fun r (u : PL × (Nat → Int64)) => (∃ z : Int32, r = some (.int z)) ∧ WT g u.1.1 u.1.2 ∧ Ext L f u.1.1 u.1.2 ∧ RF (x0, rdr, tok, tp, ka, sta, vaa) u.1.2 ∧ (((p0 = 0 ∧ r = some (.int 0) ∧ u.2 0 = fa.toInt64) ∨ (p0 = 1 ∧ r = some (.int 0) ∧ u.2 0 = pw.toInt64) ∨ (¬ p0 = 0 ∧ ¬ p0 = 1 ∧ r = some (.int 1))) ∧ CN (x0, rdr, tok, tp, ka, sta, vaa) u.1.2 tl fa pw tt)) (fun u => va_pl u.1.1 u.1.2 ++ [(ou, .inl (co, 1, .inr (.inl u.2)))]) (fun _ => []) 1 6 := by
  refine CT.startW (hh := [(0, 9, 12, 13)]) (cc := cL_fault) (maxL := 4) (ret := (some .int)) (by decide) rfl (Nat.le_of_ble_eq_true rfl) ?_
  intro p e s m below meth c ls hst htab hP hK hD hev hS hl
  obtain ⟨hx, hb, hr, hml, hts, hown, hlocks, hin⟩ := hst
  have hown : s.vm.findClass RL = some m.cls := hown
  have hA : ∀ q : Nat, s.heap.size ≤ q → va_A (va_pl L f ++ [(ou, .inl (co, 1, .inr (.inl fo)))]) s.heap.size q := fun _ h => Or.inr h
  have hl : lv_has ls 4 [(0, .ref x0), (1, .int p0), (2, .ref ou)] := hl
  have hT0 := hT
  refine lv_aload_n hx hb dL_fault_0 rfl (lv_at hl 2 rfl) ?_
  refine lv_iconst (v := 0) hx hb dL_fault_1 (by decide) ?_
  refine lv_aload_n hx hb dL_fault_2 rfl (lv_at hl 0 rfl) ?_
  refine lv_iload_n hx hb dL_fault_3 rfl (lv_at hl 1 rfl) ?_
  refine NU_VX ⟨hx, hb, hml, hown, hts⟩ (t_X9_faultX l dC dI sa hlt g _ _ x0 p0 rdr fa pw _ (hT.sub [0, 1] rfl) hCN.2.1 hCN.2.2.1 hRF.1.2.1) (cwV 1 hts gL_fault_X9_fault rfl rfl rfl (by decide +kernel) ⟨Nat.le_of_ble_eq_true rfl, Nat.le_of_ble_eq_true rfl⟩) hP hD (hK.sub [0, 1, 2, 3, 4, 5, 6, 7, 8, 9, 10] rfl) hS hA hev hT 0 9 rfl rfl rfl rfl hl.1 rfl (Nat.le_of_ble_eq_true rfl) dL_fault_4 ⟨Nat.le_of_ble_eq_true rfl, Nat.le_of_ble_eq_true rfl⟩ (fun E ce q9 L9 f9 H locs hpx hT hE hP hD hS hce hcv hcl => ?_) (fun r L8 f8 H locs hw hT hE hP hD hS => ?_)
  · obtain ⟨⟨rfl, hnq⟩, hFx⟩ := hpx
    have hRF9 := hRF.fr hT0 hFx (by decide)
    have hCN9 := hCN.fr hT0 hFx (by decide)
    refine ck_catch (own := RL) (name := NSE) hown [] ⟨0, 9, 12, 13⟩ [] (by rw [htab]; rfl) (fun z hz => nomatch hz) (by decide) (by decide) (hts (.classLink RL 13 NSE) (by decide +kernel)) (hev.2.2.1.1.use rfl) hce hcv hcl ?_
    refine W.eq (g2 := F0 m 12 ls [.ref q9]) rfl ?_
    refine lv_astore_n (lv' := [(3, .ref q9), (0, .ref x0), (1, .int p0), (2, .ref ou)]) hx hb dL_fault_12 rfl hl (by decide) rfl (fun ls hl => ?_)
    refine lv_iconst (v := 1) hx hb dL_fault_13 (by decide) ?_
    exact M_i hx hb hr hlocks ((L9, f9), fo) hP hD hK hS ⟨⟨_, rfl⟩, hT.1, hE, hRF9, ⟨Or.inr (Or.inr ⟨hnq.1, hnq.2, rfl⟩), hCN9⟩⟩ (Nat.le_of_ble_eq_true rfl) (Nat.le_of_ble_eq_true rfl) dL_fault_14
  obtain ⟨⟨z_1, rfl⟩, hFr, hex⟩ := hw
  have hRF9 := hRF.fr hT0 hFr (by decide)
  have hCN9 := hCN.fr hT0 hFr (by decide)
  refine W.eq (g2 := F0 m 7 ls [.int z_1, .int 0, .ref ou]) rfl ?_
  refine lv_i2l (v := (z_1).toInt64) hx hb dL_fault_7 rfl ?_
  refine N_lastX hx hb hK hP hD hS 11 rfl dL_fault_8 (fun fo_2 hfo_2 H locs hP hD hS => ?_)
  refine lv_goto (tgt := 15) hx hb dL_fault_9 (by decide) ?_
  refine lv_iconst (v := 0) hx hb dL_fault_15 (by decide) ?_
  exact M_i hx hb hr hlocks ((L8, f8), fo_2) hP hD hK hS ⟨⟨_, rfl⟩, hT.1, hE, hRF9, ⟨by rcases hex with ⟨h1, h2⟩ | ⟨h1, h2⟩; exact Or.inl ⟨h1, rfl, hfo_2.trans (by rw [sv h2])⟩; exact Or.inr (Or.inl ⟨h1, rfl, hfo_2.trans (by rw [sv h2])⟩), hCN9⟩⟩ (Nat.le_of_ble_eq_true rfl) (Nat.le_of_ble_eq_true rfl) dL_fault_16

abbrev rm_L_run : Room := { frames := 60, cells := 2, slots := 12, locals := 1474 }
set_option maxHeartbeats 800000 in
set_option maxRecDepth 100000 in
theorem w_run (l : Launch) (dC : Nat → ClassId) (dI : Nat → Nat → Nat) (sa : Nat → Nat) (hlt : l.stackTraces = false) (g : Nat → Nat) (L : List Nat) (f : Nat → va_E) (x0 rdr tok tp ka sta vaa ou : Nat) (co : ClassId) (fo : Nat → Int64) (p0 p1 p2 tl fa pw : Int32) (tt : Nat → Int32) (sz : Nat) (hT : TP g L f (RLs g (x0, rdr, tok, tp, ka, sta, vaa))) (hRF : RF (x0, rdr, tok, tp, ka, sta, vaa) f) (hCN : CN (x0, rdr, tok, tp, ka, sta, vaa) f tl fa pw tt) (htl15 : tl.toInt ≤ 1500) : CT l dC dI sa yL_run wsL_run rm_L_run [.ref x0, .int p0, .int p1, .int p2, .ref ou] (va_pl L f ++ [(ou, .inl (co, 1, .inr (.inl fo)))]) (tyG g ++ [(co, .long)]) sz (fun r (u : PL × (Nat → Int64)) => (∃ z : Int32, r = some (.int z)) ∧ WT g u.1.1 u.1.2 ∧ Ext L f u.1.1 u.1.2 ∧ RF (x0, rdr, tok, tp, ka, sta, vaa) u.1.2 ∧ CN (x0, rdr, tok, tp, ka, sta, vaa) u.1.2 tl fa pw tt) (fun u => va_pl u.1.1 u.1.2 ++ [(ou, .inl (co, 1, .inr (.inl u.2)))]) (fun _ => []) 2 12 := by
  refine CT.startW (hh := [(0, 12, 15, 13)]) (cc := cL_run) (maxL := 6) (ret := (some .int)) (by decide) rfl (Nat.le_of_ble_eq_true rfl) ?_
  intro p e s m below meth c ls hst htab hP hK hD hev hS hl
  obtain ⟨hx, hb, hr, hml, hts, hown, hlocks, hin⟩ := hst
  have hown : s.vm.findClass RL = some m.cls := hown
  have hA : ∀ q : Nat, s.heap.size ≤ q → va_A (va_pl L f ++ [(ou, .inl (co, 1, .inr (.inl fo)))]) s.heap.size q := fun _ h => Or.inr h
  have hl : lv_has ls 6 [(0, .ref x0), (1, .int p0), (2, .int p1), (3, .int p2), (4, .ref ou)] := hl
  have hT0 := hT
  refine lv_aload hx hb dL_run_0 (lv_at hl 4 rfl) ?_
  refine lv_iconst (v := 0) hx hb dL_run_2 (by decide) ?_
  refine lv_aload_n hx hb dL_run_3 rfl (lv_at hl 0 rfl) ?_
  refine lv_iload_n hx hb dL_run_4 rfl (lv_at hl 1 rfl) ?_
  refine lv_iload_n hx hb dL_run_5 rfl (lv_at hl 2 rfl) ?_
  refine lv_iload_n hx hb dL_run_6 rfl (lv_at hl 3 rfl) ?_
  refine NU_VX ⟨hx, hb, hml, hown, hts⟩ (t_X9_run l dC dI sa hlt g _ _ x0 p0 p1 p2 _ (hT.sub [0] rfl)) (cwV 3 hts gL_run_X9_run rfl rfl rfl (by decide +kernel) ⟨Nat.le_of_ble_eq_true rfl, Nat.le_of_ble_eq_true rfl⟩) hP hD (hK.sub [0, 1, 2, 3, 4, 5, 6, 7, 8, 9, 10] rfl) hS hA hev hT 0 9 rfl rfl rfl rfl hl.1 rfl (Nat.le_of_ble_eq_true rfl) dL_run_7 ⟨Nat.le_of_ble_eq_true rfl, Nat.le_of_ble_eq_true rfl⟩ (fun E ce q9 L9 f9 H locs hpx hT hE hP hD hS hce hcv hcl => ?_) (fun r L8 f8 H locs hw hT hE hP hD hS => ?_)
  · obtain ⟨rfl, hFx⟩ := hpx
    have hRF9 := hRF.fr hT0 hFx (by decide)
    have hCN9 := hCN.fr hT0 hFx (by decide)
    refine ck_catch (own := RL) (name := NSE) hown [] ⟨0, 12, 15, 13⟩ [] (by rw [htab]; rfl) (fun z hz => nomatch hz) (by decide) (by decide) (hts (.classLink RL 13 NSE) (by decide +kernel)) (hev.2.2.1.1.use rfl) hce hcv hcl ?_
    refine W.eq (g2 := F0 m 15 ls [.ref q9]) rfl ?_
    refine lv_astore (lv' := [(5, .ref q9), (0, .ref x0), (1, .int p0), (2, .int p1), (3, .int p2), (4, .ref ou)]) hx hb dL_run_15 hl (by decide) rfl (fun ls hl => ?_)
    refine lv_iconst (v := 1) hx hb dL_run_17 (by decide) ?_
    exact M_i hx hb hr hlocks ((L9, f9), fo) hP hD hK hS ⟨⟨_, rfl⟩, hT.1, hE, hRF9, hCN9⟩ (Nat.le_of_ble_eq_true rfl) (Nat.le_of_ble_eq_true rfl) dL_run_18
  obtain ⟨⟨z_1, rfl⟩, hFr⟩ := hw
  have hRF9 := hRF.fr hT0 hFr (by decide)
  have hCN9 := hCN.fr hT0 hFr (by decide)
  refine W.eq (g2 := F0 m 10 ls [.int z_1, .int 0, .ref ou]) rfl ?_
  refine lv_i2l (v := (z_1).toInt64) hx hb dL_run_10 rfl ?_
  refine N_lastX hx hb hK hP hD hS 11 rfl dL_run_11 (fun fo_2 hfo_2 H locs hP hD hS => ?_)
  refine lv_goto (tgt := 19) hx hb dL_run_12 (by decide) ?_
  refine lv_iconst (v := 0) hx hb dL_run_19 (by decide) ?_
  exact M_i hx hb hr hlocks ((L8, f8), fo_2) hP hD hK hS ⟨⟨_, rfl⟩, hT.1, hE, hRF9, hCN9⟩ (Nat.le_of_ble_eq_true rfl) (Nat.le_of_ble_eq_true rfl) dL_run_20

abbrev rm_L_ran : Room := { frames := 7, cells := 1, slots := 6, locals := 103 }
set_option maxHeartbeats 800000 in
set_option maxRecDepth 100000 in
theorem w_ran (l : Launch) (dC : Nat → ClassId) (dI : Nat → Nat → Nat) (sa : Nat → Nat) (hlt : l.stackTraces = false) (g : Nat → Nat) (L : List Nat) (f : Nat → va_E) (x0 rdr tok tp ka sta vaa ou : Nat) (co : ClassId) (fo : Nat → Int64) (p0 tl fa pw : Int32) (tt : Nat → Int32) (sz : Nat) (hT : TP g L f (RLs g (x0, rdr, tok, tp, ka, sta, vaa))) (hRF : RF (x0, rdr, tok, tp, ka, sta, vaa) f) (hCN : CN (x0, rdr, tok, tp, ka, sta, vaa) f tl fa pw tt) (htl15 : tl.toInt ≤ 1500) : CT l dC dI sa yL_ran wsL_ran rm_L_ran [.ref x0, .int p0, .ref ou] (va_pl L f ++ [(ou, .inl (co, 1, .inr (.inl fo)))]) (tyG g ++ [(co, .long)]) sz (fun r (u : PL × (Nat → Int64)) => (∃ z : Int32, r = some (.int z)) ∧ WT g u.1.1 u.1.2 ∧ Ext L f u.1.1 u.1.2 ∧ RF (x0, rdr, tok, tp, ka, sta, vaa) u.1.2 ∧ CN (x0, rdr, tok, tp, ka, sta, vaa) u.1.2 tl fa pw tt) (fun u => va_pl u.1.1 u.1.2 ++ [(ou, .inl (co, 1, .inr (.inl u.2)))]) (fun _ => []) 1 6 := by
  refine CT.startW (hh := [(0, 9, 12, 13)]) (cc := cL_ran) (maxL := 4) (ret := (some .int)) (by decide) rfl (Nat.le_of_ble_eq_true rfl) ?_
  intro p e s m below meth c ls hst htab hP hK hD hev hS hl
  obtain ⟨hx, hb, hr, hml, hts, hown, hlocks, hin⟩ := hst
  have hown : s.vm.findClass RL = some m.cls := hown
  have hA : ∀ q : Nat, s.heap.size ≤ q → va_A (va_pl L f ++ [(ou, .inl (co, 1, .inr (.inl fo)))]) s.heap.size q := fun _ h => Or.inr h
  have hl : lv_has ls 4 [(0, .ref x0), (1, .int p0), (2, .ref ou)] := hl
  have hT0 := hT
  refine lv_aload_n hx hb dL_ran_0 rfl (lv_at hl 2 rfl) ?_
  refine lv_iconst (v := 0) hx hb dL_ran_1 (by decide) ?_
  refine lv_aload_n hx hb dL_ran_2 rfl (lv_at hl 0 rfl) ?_
  refine lv_iload_n hx hb dL_ran_3 rfl (lv_at hl 1 rfl) ?_
  refine NU_VX ⟨hx, hb, hml, hown, hts⟩ (t_X9_ran l dC dI sa hlt g _ _ x0 p0 _ (hT.sub [0] rfl)) (cwV 1 hts gL_ran_X9_ran rfl rfl rfl (by decide +kernel) ⟨Nat.le_of_ble_eq_true rfl, Nat.le_of_ble_eq_true rfl⟩) hP hD (hK.sub [0, 1, 2, 3, 4, 5, 6, 7, 8, 9, 10] rfl) hS hA hev hT 0 9 rfl rfl rfl rfl hl.1 rfl (Nat.le_of_ble_eq_true rfl) dL_ran_4 ⟨Nat.le_of_ble_eq_true rfl, Nat.le_of_ble_eq_true rfl⟩ (fun E ce q9 L9 f9 H locs hpx hT hE hP hD hS hce hcv hcl => ?_) (fun r L8 f8 H locs hw hT hE hP hD hS => ?_)
  · obtain ⟨rfl, hFx⟩ := hpx
    have hRF9 := hRF.fr hT0 hFx (by decide)
    have hCN9 := hCN.fr hT0 hFx (by decide)
    refine ck_catch (own := RL) (name := NSE) hown [] ⟨0, 9, 12, 13⟩ [] (by rw [htab]; rfl) (fun z hz => nomatch hz) (by decide) (by decide) (hts (.classLink RL 13 NSE) (by decide +kernel)) (hev.2.2.1.1.use rfl) hce hcv hcl ?_
    refine W.eq (g2 := F0 m 12 ls [.ref q9]) rfl ?_
    refine lv_astore_n (lv' := [(3, .ref q9), (0, .ref x0), (1, .int p0), (2, .ref ou)]) hx hb dL_ran_12 rfl hl (by decide) rfl (fun ls hl => ?_)
    refine lv_iconst (v := 1) hx hb dL_ran_13 (by decide) ?_
    exact M_i hx hb hr hlocks ((L9, f9), fo) hP hD hK hS ⟨⟨_, rfl⟩, hT.1, hE, hRF9, hCN9⟩ (Nat.le_of_ble_eq_true rfl) (Nat.le_of_ble_eq_true rfl) dL_ran_14
  obtain ⟨⟨z_1, rfl⟩, hFr⟩ := hw
  have hRF9 := hRF.fr hT0 hFr (by decide)
  have hCN9 := hCN.fr hT0 hFr (by decide)
  refine W.eq (g2 := F0 m 7 ls [.int z_1, .int 0, .ref ou]) rfl ?_
  refine lv_i2l (v := (z_1).toInt64) hx hb dL_ran_7 rfl ?_
  refine N_lastX hx hb hK hP hD hS 11 rfl dL_ran_8 (fun fo_2 hfo_2 H locs hP hD hS => ?_)
  refine lv_goto (tgt := 15) hx hb dL_ran_9 (by decide) ?_
  refine lv_iconst (v := 0) hx hb dL_ran_15 (by decide) ?_
  exact M_i hx hb hr hlocks ((L8, f8), fo_2) hP hD hK hS ⟨⟨_, rfl⟩, hT.1, hE, hRF9, hCN9⟩ (Nat.le_of_ble_eq_true rfl) (Nat.le_of_ble_eq_true rfl) dL_ran_16

abbrev rm_L_plan : Room := { frames := 29, cells := 3, slots := 18, locals := 674 }
set_option maxHeartbeats 800000 in
set_option maxRecDepth 100000 in
theorem w_plan (l : Launch) (dC : Nat → ClassId) (dI : Nat → Nat → Nat) (sa : Nat → Nat) (hlt : l.stackTraces = false) (g : Nat → Nat) (L : List Nat) (f : Nat → va_E) (x0 rdr tok tp ka sta vaa ou : Nat) (co : ClassId) (fo : Nat → Int64) (p0 p1 p2 p3 tl fa pw : Int32) (tt : Nat → Int32) (sz : Nat) (hT : TP g L f (RLs g (x0, rdr, tok, tp, ka, sta, vaa))) (hRF : RF (x0, rdr, tok, tp, ka, sta, vaa) f) (hCN : CN (x0, rdr, tok, tp, ka, sta, vaa) f tl fa pw tt) (htl15 : tl.toInt ≤ 1500) : CT l dC dI sa yL_plan wsL_plan rm_L_plan [.ref x0, .int p0, .int p1, .int p2, .int p3, .ref ou] (va_pl L f ++ [(ou, .inl (co, 1, .inr (.inl fo)))]) (tyG g ++ [(co, .long)]) sz (fun r (u : PL × (Nat → Int64)) => (∃ z : Int32, r = some (.int z)) ∧ WT g u.1.1 u.1.2 ∧ Ext L f u.1.1 u.1.2 ∧ RF (x0, rdr, tok, tp, ka, sta, vaa) u.1.2 ∧ CN (x0, rdr, tok, tp, ka, sta, vaa) u.1.2 tl fa pw tt) (fun u => va_pl u.1.1 u.1.2 ++ [(ou, .inl (co, 1, .inr (.inl u.2)))]) (fun _ => []) 3 18 := by
  refine CT.startW (hh := [(0, 14, 17, 13), (0, 14, 21, 18)]) (cc := cL_plan) (maxL := 7) (ret := (some .int)) (by decide) rfl (Nat.le_of_ble_eq_true rfl) ?_
  intro p e s m below meth c ls hst htab hP hK hD hev hS hl
  obtain ⟨hx, hb, hr, hml, hts, hown, hlocks, hin⟩ := hst
  have hown : s.vm.findClass RL = some m.cls := hown
  have hA : ∀ q : Nat, s.heap.size ≤ q → va_A (va_pl L f ++ [(ou, .inl (co, 1, .inr (.inl fo)))]) s.heap.size q := fun _ h => Or.inr h
  have hl : lv_has ls 7 [(0, .ref x0), (1, .int p0), (2, .int p1), (3, .int p2), (4, .int p3), (5, .ref ou)] := hl
  have hT0 := hT
  refine lv_aload hx hb dL_plan_0 (lv_at hl 5 rfl) ?_
  refine lv_iconst (v := 0) hx hb dL_plan_2 (by decide) ?_
  refine lv_aload_n hx hb dL_plan_3 rfl (lv_at hl 0 rfl) ?_
  refine lv_iload_n hx hb dL_plan_4 rfl (lv_at hl 1 rfl) ?_
  refine lv_iload_n hx hb dL_plan_5 rfl (lv_at hl 2 rfl) ?_
  refine lv_iload_n hx hb dL_plan_6 rfl (lv_at hl 3 rfl) ?_
  refine lv_iload hx hb dL_plan_7 (lv_at hl 4 rfl) ?_
  refine NU_VX ⟨hx, hb, hml, hown, hts⟩ (t_X9_plan l dC dI sa hlt g _ _ x0 p0 p1 p2 p3 _ (hT.sub [0] rfl)) (cwV 4 hts gL_plan_X9_plan rfl rfl rfl (by decide +kernel) ⟨Nat.le_of_ble_eq_true rfl, Nat.le_of_ble_eq_true rfl⟩) hP hD (hK.sub [0, 1, 2, 3, 4, 5, 6, 7, 8, 9, 10] rfl) hS hA hev hT 0 9 rfl rfl rfl rfl hl.1 rfl (Nat.le_of_ble_eq_true rfl) dL_plan_9 ⟨Nat.le_of_ble_eq_true rfl, Nat.le_of_ble_eq_true rfl⟩ (fun E ce q9 L9 f9 H locs hpx hT hE hP hD hS hce hcv hcl => ?_) (fun r L8 f8 H locs hw hT hE hP hD hS => ?_)
  · obtain ⟨rfl | rfl, hFx⟩ := hpx
    · have hRF9 := hRF.fr hT0 hFx (by decide)
      have hCN9 := hCN.fr hT0 hFx (by decide)
      refine ck_catch (own := RL) (name := NSE) hown [] ⟨0, 14, 17, 13⟩ [⟨0, 14, 21, 18⟩] (by rw [htab]; rfl) (fun z hz => nomatch hz) (by decide) (by decide) (hts (.classLink RL 13 NSE) (by decide +kernel)) (hev.2.2.1.1.use rfl) hce hcv hcl ?_
      refine W.eq (g2 := F0 m 17 ls [.ref q9]) rfl ?_
      refine lv_astore (lv' := [(6, .ref q9), (0, .ref x0), (1, .int p0), (2, .int p1), (3, .int p2), (4, .int p3), (5, .ref ou)]) hx hb dL_plan_17 hl (by decide) rfl (fun ls hl => ?_)
      refine lv_iconst (v := 1) hx hb dL_plan_19 (by decide) ?_
      exact M_i hx hb hr hlocks ((L9, f9), fo) hP hD hK hS ⟨⟨_, rfl⟩, hT.1, hE, hRF9, hCN9⟩ (Nat.le_of_ble_eq_true rfl) (Nat.le_of_ble_eq_true rfl) dL_plan_20
    · have hRF9 := hRF.fr hT0 hFx (by decide)
      have hCN9 := hCN.fr hT0 hFx (by decide)
      refine ck_catch (own := RL) (name := IAE) hown [⟨0, 14, 17, 13⟩] ⟨0, 14, 21, 18⟩ [] (by rw [htab]; rfl) (fun z hz => by rcases List.mem_singleton.mp hz with rfl; exact Or.inr ⟨by decide, NSE, hts (.classLink RL 13 NSE) (by decide +kernel), hev.2.2.1.2.2⟩) (by decide) (by decide) (hts (.classLink RL 18 IAE) (by decide +kernel)) (hev.2.2.1.2.1.use rfl) hce hcv hcl ?_
      refine W.eq (g2 := F0 m 21 ls [.ref q9]) rfl ?_
      refine lv_astore (lv' := [(6, .ref q9), (0, .ref x0), (1, .int p0), (2, .int p1), (3, .int p2), (4, .int p3), (5, .ref ou)]) hx hb dL_plan_21 hl (by decide) rfl (fun ls hl => ?_)
      refine lv_iconst (v := 2) hx hb dL_plan_23 (by decide) ?_
      exact M_i hx hb hr hlocks ((L9, f9), fo) hP hD hK hS ⟨⟨_, rfl⟩, hT.1, hE, hRF9, hCN9⟩ (Nat.le_of_ble_eq_true rfl) (Nat.le_of_ble_eq_true rfl) dL_plan_24
  obtain ⟨⟨z_1, rfl⟩, hFr⟩ := hw
  have hRF9 := hRF.fr hT0 hFr (by decide)
  have hCN9 := hCN.fr hT0 hFr (by decide)
  refine W.eq (g2 := F0 m 12 ls [.int z_1, .int 0, .ref ou]) rfl ?_
  refine lv_i2l (v := (z_1).toInt64) hx hb dL_plan_12 rfl ?_
  refine N_lastX hx hb hK hP hD hS 11 rfl dL_plan_13 (fun fo_2 hfo_2 H locs hP hD hS => ?_)
  refine lv_goto (tgt := 25) hx hb dL_plan_14 (by decide) ?_
  refine lv_iconst (v := 0) hx hb dL_plan_25 (by decide) ?_
  exact M_i hx hb hr hlocks ((L8, f8), fo_2) hP hD hK hS ⟨⟨_, rfl⟩, hT.1, hE, hRF9, hCN9⟩ (Nat.le_of_ble_eq_true rfl) (Nat.le_of_ble_eq_true rfl) dL_plan_26

abbrev rm_L_planned : Room := { frames := 7, cells := 1, slots := 6, locals := 104 }
set_option maxHeartbeats 800000 in
set_option maxRecDepth 100000 in
theorem w_planned (l : Launch) (dC : Nat → ClassId) (dI : Nat → Nat → Nat) (sa : Nat → Nat) (hlt : l.stackTraces = false) (g : Nat → Nat) (L : List Nat) (f : Nat → va_E) (x0 rdr tok tp ka sta vaa ou : Nat) (co : ClassId) (fo : Nat → Int64) (p0 p1 tl fa pw : Int32) (tt : Nat → Int32) (sz : Nat) (hT : TP g L f (RLs g (x0, rdr, tok, tp, ka, sta, vaa))) (hRF : RF (x0, rdr, tok, tp, ka, sta, vaa) f) (hCN : CN (x0, rdr, tok, tp, ka, sta, vaa) f tl fa pw tt) (htl15 : tl.toInt ≤ 1500) : CT l dC dI sa yL_planned wsL_planned rm_L_planned [.ref x0, .int p0, .int p1, .ref ou] (va_pl L f ++ [(ou, .inl (co, 1, .inr (.inl fo)))]) (tyG g ++ [(co, .long)]) sz (fun r (u : PL × (Nat → Int64)) => (∃ z : Int32, r = some (.int z)) ∧ WT g u.1.1 u.1.2 ∧ Ext L f u.1.1 u.1.2 ∧ RF (x0, rdr, tok, tp, ka, sta, vaa) u.1.2 ∧ CN (x0, rdr, tok, tp, ka, sta, vaa) u.1.2 tl fa pw tt) (fun u => va_pl u.1.1 u.1.2 ++ [(ou, .inl (co, 1, .inr (.inl u.2)))]) (fun _ => []) 1 6 := by
  refine CT.startW (hh := [(0, 10, 13, 13)]) (cc := cL_planned) (maxL := 5) (ret := (some .int)) (by decide) rfl (Nat.le_of_ble_eq_true rfl) ?_
  intro p e s m below meth c ls hst htab hP hK hD hev hS hl
  obtain ⟨hx, hb, hr, hml, hts, hown, hlocks, hin⟩ := hst
  have hown : s.vm.findClass RL = some m.cls := hown
  have hA : ∀ q : Nat, s.heap.size ≤ q → va_A (va_pl L f ++ [(ou, .inl (co, 1, .inr (.inl fo)))]) s.heap.size q := fun _ h => Or.inr h
  have hl : lv_has ls 5 [(0, .ref x0), (1, .int p0), (2, .int p1), (3, .ref ou)] := hl
  have hT0 := hT
  refine lv_aload_n hx hb dL_planned_0 rfl (lv_at hl 3 rfl) ?_
  refine lv_iconst (v := 0) hx hb dL_planned_1 (by decide) ?_
  refine lv_aload_n hx hb dL_planned_2 rfl (lv_at hl 0 rfl) ?_
  refine lv_iload_n hx hb dL_planned_3 rfl (lv_at hl 1 rfl) ?_
  refine lv_iload_n hx hb dL_planned_4 rfl (lv_at hl 2 rfl) ?_
  refine NU_VX ⟨hx, hb, hml, hown, hts⟩ (t_X9_planned l dC dI sa hlt g _ _ x0 p0 p1 _ (hT.sub [0] rfl)) (cwV 2 hts gL_planned_X9_planned rfl rfl rfl (by decide +kernel) ⟨Nat.le_of_ble_eq_true rfl, Nat.le_of_ble_eq_true rfl⟩) hP hD (hK.sub [0, 1, 2, 3, 4, 5, 6, 7, 8, 9, 10] rfl) hS hA hev hT 0 9 rfl rfl rfl rfl hl.1 rfl (Nat.le_of_ble_eq_true rfl) dL_planned_5 ⟨Nat.le_of_ble_eq_true rfl, Nat.le_of_ble_eq_true rfl⟩ (fun E ce q9 L9 f9 H locs hpx hT hE hP hD hS hce hcv hcl => ?_) (fun r L8 f8 H locs hw hT hE hP hD hS => ?_)
  · obtain ⟨rfl, hFx⟩ := hpx
    have hRF9 := hRF.fr hT0 hFx (by decide)
    have hCN9 := hCN.fr hT0 hFx (by decide)
    refine ck_catch (own := RL) (name := NSE) hown [] ⟨0, 10, 13, 13⟩ [] (by rw [htab]; rfl) (fun z hz => nomatch hz) (by decide) (by decide) (hts (.classLink RL 13 NSE) (by decide +kernel)) (hev.2.2.1.1.use rfl) hce hcv hcl ?_
    refine W.eq (g2 := F0 m 13 ls [.ref q9]) rfl ?_
    refine lv_astore (lv' := [(4, .ref q9), (0, .ref x0), (1, .int p0), (2, .int p1), (3, .ref ou)]) hx hb dL_planned_13 hl (by decide) rfl (fun ls hl => ?_)
    refine lv_iconst (v := 1) hx hb dL_planned_15 (by decide) ?_
    exact M_i hx hb hr hlocks ((L9, f9), fo) hP hD hK hS ⟨⟨_, rfl⟩, hT.1, hE, hRF9, hCN9⟩ (Nat.le_of_ble_eq_true rfl) (Nat.le_of_ble_eq_true rfl) dL_planned_16
  obtain ⟨⟨z_1, rfl⟩, hFr⟩ := hw
  have hRF9 := hRF.fr hT0 hFr (by decide)
  have hCN9 := hCN.fr hT0 hFr (by decide)
  refine W.eq (g2 := F0 m 8 ls [.int z_1, .int 0, .ref ou]) rfl ?_
  refine lv_i2l (v := (z_1).toInt64) hx hb dL_planned_8 rfl ?_
  refine N_lastX hx hb hK hP hD hS 11 rfl dL_planned_9 (fun fo_2 hfo_2 H locs hP hD hS => ?_)
  refine lv_goto (tgt := 17) hx hb dL_planned_10 (by decide) ?_
  refine lv_iconst (v := 0) hx hb dL_planned_17 (by decide) ?_
  exact M_i hx hb hr hlocks ((L8, f8), fo_2) hP hD hK hS ⟨⟨_, rfl⟩, hT.1, hE, hRF9, hCN9⟩ (Nat.le_of_ble_eq_true rfl) (Nat.le_of_ble_eq_true rfl) dL_planned_18

abbrev rm_L_vat : Room := { frames := 8, cells := 2, slots := 12, locals := 126 }
set_option maxHeartbeats 800000 in
set_option maxRecDepth 100000 in
theorem w_vat (l : Launch) (dC : Nat → ClassId) (dI : Nat → Nat → Nat) (sa : Nat → Nat) (hlt : l.stackTraces = false) (g : Nat → Nat) (L : List Nat) (f : Nat → va_E) (x0 rdr tok tp ka sta vaa ou : Nat) (co : ClassId) (fo : Nat → Int64) (p0 p1 tl fa pw : Int32) (tt : Nat → Int32) (sz : Nat) (hT : TP g L f (RLs g (x0, rdr, tok, tp, ka, sta, vaa))) (hRF : RF (x0, rdr, tok, tp, ka, sta, vaa) f) (hCN : CN (x0, rdr, tok, tp, ka, sta, vaa) f tl fa pw tt) (htl15 : tl.toInt ≤ 1500) : CT l dC dI sa yL_vat wsL_vat rm_L_vat [.ref x0, .int p0, .int p1, .ref ou] (va_pl L f ++ [(ou, .inl (co, 1, .inr (.inl fo)))]) (tyG g ++ [(co, .long)]) sz (fun r (u : PL × (Nat → Int64)) => (∃ z : Int32, r = some (.int z)) ∧ WT g u.1.1 u.1.2 ∧ Ext L f u.1.1 u.1.2 ∧ RF (x0, rdr, tok, tp, ka, sta, vaa) u.1.2 ∧ CN (x0, rdr, tok, tp, ka, sta, vaa) u.1.2 tl fa pw tt) (fun u => va_pl u.1.1 u.1.2 ++ [(ou, .inl (co, 1, .inr (.inl u.2)))]) (fun _ => []) 2 12 := by
  refine CT.startW (hh := [(0, 10, 13, 13)]) (cc := cL_vat) (maxL := 5) (ret := (some .int)) (by decide) rfl (Nat.le_of_ble_eq_true rfl) ?_
  intro p e s m below meth c ls hst htab hP hK hD hev hS hl
  obtain ⟨hx, hb, hr, hml, hts, hown, hlocks, hin⟩ := hst
  have hown : s.vm.findClass RL = some m.cls := hown
  have hA : ∀ q : Nat, s.heap.size ≤ q → va_A (va_pl L f ++ [(ou, .inl (co, 1, .inr (.inl fo)))]) s.heap.size q := fun _ h => Or.inr h
  have hl : lv_has ls 5 [(0, .ref x0), (1, .int p0), (2, .int p1), (3, .ref ou)] := hl
  have hT0 := hT
  refine lv_aload_n hx hb dL_vat_0 rfl (lv_at hl 3 rfl) ?_
  refine lv_iconst (v := 0) hx hb dL_vat_1 (by decide) ?_
  refine lv_aload_n hx hb dL_vat_2 rfl (lv_at hl 0 rfl) ?_
  refine lv_iload_n hx hb dL_vat_3 rfl (lv_at hl 1 rfl) ?_
  refine lv_iload_n hx hb dL_vat_4 rfl (lv_at hl 2 rfl) ?_
  refine NU_VX ⟨hx, hb, hml, hown, hts⟩ (t_X9_vat l dC dI sa hlt g _ _ x0 p0 p1 _ (hT.sub [0] rfl)) (cwV 2 hts gL_vat_X9_vat rfl rfl rfl (by decide +kernel) ⟨Nat.le_of_ble_eq_true rfl, Nat.le_of_ble_eq_true rfl⟩) hP hD (hK.sub [0, 1, 2, 3, 4, 5, 6, 7, 8, 9, 10] rfl) hS hA hev hT 0 9 rfl rfl rfl rfl hl.1 rfl (Nat.le_of_ble_eq_true rfl) dL_vat_5 ⟨Nat.le_of_ble_eq_true rfl, Nat.le_of_ble_eq_true rfl⟩ (fun E ce q9 L9 f9 H locs hpx hT hE hP hD hS hce hcv hcl => ?_) (fun r L8 f8 H locs hw hT hE hP hD hS => ?_)
  · obtain ⟨rfl, hFx⟩ := hpx
    have hRF9 := hRF.fr hT0 hFx (by decide)
    have hCN9 := hCN.fr hT0 hFx (by decide)
    refine ck_catch (own := RL) (name := NSE) hown [] ⟨0, 10, 13, 13⟩ [] (by rw [htab]; rfl) (fun z hz => nomatch hz) (by decide) (by decide) (hts (.classLink RL 13 NSE) (by decide +kernel)) (hev.2.2.1.1.use rfl) hce hcv hcl ?_
    refine W.eq (g2 := F0 m 13 ls [.ref q9]) rfl ?_
    refine lv_astore (lv' := [(4, .ref q9), (0, .ref x0), (1, .int p0), (2, .int p1), (3, .ref ou)]) hx hb dL_vat_13 hl (by decide) rfl (fun ls hl => ?_)
    refine lv_iconst (v := 1) hx hb dL_vat_15 (by decide) ?_
    exact M_i hx hb hr hlocks ((L9, f9), fo) hP hD hK hS ⟨⟨_, rfl⟩, hT.1, hE, hRF9, hCN9⟩ (Nat.le_of_ble_eq_true rfl) (Nat.le_of_ble_eq_true rfl) dL_vat_16
  obtain ⟨⟨z_1, rfl⟩, hFr⟩ := hw
  have hRF9 := hRF.fr hT0 hFr (by decide)
  have hCN9 := hCN.fr hT0 hFr (by decide)
  refine W.eq (g2 := F0 m 8 ls [.int z_1, .int 0, .ref ou]) rfl ?_
  refine lv_i2l (v := (z_1).toInt64) hx hb dL_vat_8 rfl ?_
  refine N_lastX hx hb hK hP hD hS 11 rfl dL_vat_9 (fun fo_2 hfo_2 H locs hP hD hS => ?_)
  refine lv_goto (tgt := 17) hx hb dL_vat_10 (by decide) ?_
  refine lv_iconst (v := 0) hx hb dL_vat_17 (by decide) ?_
  exact M_i hx hb hr hlocks ((L8, f8), fo_2) hP hD hK hS ⟨⟨_, rfl⟩, hT.1, hE, hRF9, hCN9⟩ (Nat.le_of_ble_eq_true rfl) (Nat.le_of_ble_eq_true rfl) dL_vat_18

abbrev rm_L_about : Room := { frames := 8, cells := 2, slots := 12, locals := 127 }
set_option maxHeartbeats 800000 in
set_option maxRecDepth 100000 in
theorem w_about (l : Launch) (dC : Nat → ClassId) (dI : Nat → Nat → Nat) (sa : Nat → Nat) (hlt : l.stackTraces = false) (g : Nat → Nat) (L : List Nat) (f : Nat → va_E) (x0 rdr tok tp ka sta vaa ou : Nat) (co : ClassId) (fo : Nat → Int64) (p0 p1 tl fa pw : Int32) (tt : Nat → Int32) (sz : Nat) (hT : TP g L f (RLs g (x0, rdr, tok, tp, ka, sta, vaa))) (hRF : RF (x0, rdr, tok, tp, ka, sta, vaa) f) (hCN : CN (x0, rdr, tok, tp, ka, sta, vaa) f tl fa pw tt) (htl15 : tl.toInt ≤ 1500) : CT l dC dI sa yL_about wsL_about rm_L_about [.ref x0, .int p0, .int p1, .ref ou] (va_pl L f ++ [(ou, .inl (co, 1, .inr (.inl fo)))]) (tyG g ++ [(co, .long)]) sz (fun r (u : PL × (Nat → Int64)) => (∃ z : Int32, r = some (.int z)) ∧ WT g u.1.1 u.1.2 ∧ Ext L f u.1.1 u.1.2 ∧ RF (x0, rdr, tok, tp, ka, sta, vaa) u.1.2 ∧ CN (x0, rdr, tok, tp, ka, sta, vaa) u.1.2 tl fa pw tt) (fun u => va_pl u.1.1 u.1.2 ++ [(ou, .inl (co, 1, .inr (.inl u.2)))]) (fun _ => []) 2 12 := by
  refine CT.startW (hh := [(0, 10, 13, 13)]) (cc := cL_about) (maxL := 5) (ret := (some .int)) (by decide) rfl (Nat.le_of_ble_eq_true rfl) ?_
  intro p e s m below meth c ls hst htab hP hK hD hev hS hl
  obtain ⟨hx, hb, hr, hml, hts, hown, hlocks, hin⟩ := hst
  have hown : s.vm.findClass RL = some m.cls := hown
  have hA : ∀ q : Nat, s.heap.size ≤ q → va_A (va_pl L f ++ [(ou, .inl (co, 1, .inr (.inl fo)))]) s.heap.size q := fun _ h => Or.inr h
  have hl : lv_has ls 5 [(0, .ref x0), (1, .int p0), (2, .int p1), (3, .ref ou)] := hl
  have hT0 := hT
  refine lv_aload_n hx hb dL_about_0 rfl (lv_at hl 3 rfl) ?_
  refine lv_iconst (v := 0) hx hb dL_about_1 (by decide) ?_
  refine lv_aload_n hx hb dL_about_2 rfl (lv_at hl 0 rfl) ?_
  refine lv_iload_n hx hb dL_about_3 rfl (lv_at hl 1 rfl) ?_
  refine lv_iload_n hx hb dL_about_4 rfl (lv_at hl 2 rfl) ?_
  refine NU_VX ⟨hx, hb, hml, hown, hts⟩ (t_X9_about l dC dI sa hlt g _ _ x0 p0 p1 _ (hT.sub [0] rfl)) (cwV 2 hts gL_about_X9_about rfl rfl rfl (by decide +kernel) ⟨Nat.le_of_ble_eq_true rfl, Nat.le_of_ble_eq_true rfl⟩) hP hD (hK.sub [0, 1, 2, 3, 4, 5, 6, 7, 8, 9, 10] rfl) hS hA hev hT 0 9 rfl rfl rfl rfl hl.1 rfl (Nat.le_of_ble_eq_true rfl) dL_about_5 ⟨Nat.le_of_ble_eq_true rfl, Nat.le_of_ble_eq_true rfl⟩ (fun E ce q9 L9 f9 H locs hpx hT hE hP hD hS hce hcv hcl => ?_) (fun r L8 f8 H locs hw hT hE hP hD hS => ?_)
  · obtain ⟨rfl, hFx⟩ := hpx
    have hRF9 := hRF.fr hT0 hFx (by decide)
    have hCN9 := hCN.fr hT0 hFx (by decide)
    refine ck_catch (own := RL) (name := NSE) hown [] ⟨0, 10, 13, 13⟩ [] (by rw [htab]; rfl) (fun z hz => nomatch hz) (by decide) (by decide) (hts (.classLink RL 13 NSE) (by decide +kernel)) (hev.2.2.1.1.use rfl) hce hcv hcl ?_
    refine W.eq (g2 := F0 m 13 ls [.ref q9]) rfl ?_
    refine lv_astore (lv' := [(4, .ref q9), (0, .ref x0), (1, .int p0), (2, .int p1), (3, .ref ou)]) hx hb dL_about_13 hl (by decide) rfl (fun ls hl => ?_)
    refine lv_iconst (v := 1) hx hb dL_about_15 (by decide) ?_
    exact M_i hx hb hr hlocks ((L9, f9), fo) hP hD hK hS ⟨⟨_, rfl⟩, hT.1, hE, hRF9, hCN9⟩ (Nat.le_of_ble_eq_true rfl) (Nat.le_of_ble_eq_true rfl) dL_about_16
  obtain ⟨⟨z_1, rfl⟩, hFr⟩ := hw
  have hRF9 := hRF.fr hT0 hFr (by decide)
  have hCN9 := hCN.fr hT0 hFr (by decide)
  refine W.eq (g2 := F0 m 8 ls [.int z_1, .int 0, .ref ou]) rfl ?_
  refine lv_i2l (v := (z_1).toInt64) hx hb dL_about_8 rfl ?_
  refine N_lastX hx hb hK hP hD hS 11 rfl dL_about_9 (fun fo_2 hfo_2 H locs hP hD hS => ?_)
  refine lv_goto (tgt := 17) hx hb dL_about_10 (by decide) ?_
  refine lv_iconst (v := 0) hx hb dL_about_17 (by decide) ?_
  exact M_i hx hb hr hlocks ((L8, f8), fo_2) hP hD hK hS ⟨⟨_, rfl⟩, hT.1, hE, hRF9, hCN9⟩ (Nat.le_of_ble_eq_true rfl) (Nat.le_of_ble_eq_true rfl) dL_about_18

abbrev rm_L_count : Room := { frames := 7, cells := 1, slots := 6, locals := 103 }
set_option maxHeartbeats 800000 in
set_option maxRecDepth 100000 in
theorem w_count (l : Launch) (dC : Nat → ClassId) (dI : Nat → Nat → Nat) (sa : Nat → Nat) (hlt : l.stackTraces = false) (g : Nat → Nat) (L : List Nat) (f : Nat → va_E) (x0 rdr tok tp ka sta vaa ou : Nat) (co : ClassId) (fo : Nat → Int64) (p0 tl fa pw : Int32) (tt : Nat → Int32) (sz : Nat) (hT : TP g L f (RLs g (x0, rdr, tok, tp, ka, sta, vaa))) (hRF : RF (x0, rdr, tok, tp, ka, sta, vaa) f) (hCN : CN (x0, rdr, tok, tp, ka, sta, vaa) f tl fa pw tt) (htl15 : tl.toInt ≤ 1500) : CT l dC dI sa yL_count wsL_count rm_L_count [.ref x0, .int p0, .ref ou] (va_pl L f ++ [(ou, .inl (co, 1, .inr (.inl fo)))]) (tyG g ++ [(co, .long)]) sz (fun r (u : PL × (Nat → Int64)) => (∃ z : Int32, r = some (.int z)) ∧ WT g u.1.1 u.1.2 ∧ Ext L f u.1.1 u.1.2 ∧ RF (x0, rdr, tok, tp, ka, sta, vaa) u.1.2 ∧ CN (x0, rdr, tok, tp, ka, sta, vaa) u.1.2 tl fa pw tt) (fun u => va_pl u.1.1 u.1.2 ++ [(ou, .inl (co, 1, .inr (.inl u.2)))]) (fun _ => []) 1 6 := by
  refine CT.startW (hh := [(0, 9, 12, 13)]) (cc := cL_count) (maxL := 4) (ret := (some .int)) (by decide) rfl (Nat.le_of_ble_eq_true rfl) ?_
  intro p e s m below meth c ls hst htab hP hK hD hev hS hl
  obtain ⟨hx, hb, hr, hml, hts, hown, hlocks, hin⟩ := hst
  have hown : s.vm.findClass RL = some m.cls := hown
  have hA : ∀ q : Nat, s.heap.size ≤ q → va_A (va_pl L f ++ [(ou, .inl (co, 1, .inr (.inl fo)))]) s.heap.size q := fun _ h => Or.inr h
  have hl : lv_has ls 4 [(0, .ref x0), (1, .int p0), (2, .ref ou)] := hl
  have hT0 := hT
  refine lv_aload_n hx hb dL_count_0 rfl (lv_at hl 2 rfl) ?_
  refine lv_iconst (v := 0) hx hb dL_count_1 (by decide) ?_
  refine lv_aload_n hx hb dL_count_2 rfl (lv_at hl 0 rfl) ?_
  refine lv_iload_n hx hb dL_count_3 rfl (lv_at hl 1 rfl) ?_
  refine NU_VX ⟨hx, hb, hml, hown, hts⟩ (t_X9_count l dC dI sa hlt g _ _ x0 p0 _ (hT.sub [0] rfl)) (cwV 1 hts gL_count_X9_count rfl rfl rfl (by decide +kernel) ⟨Nat.le_of_ble_eq_true rfl, Nat.le_of_ble_eq_true rfl⟩) hP hD (hK.sub [0, 1, 2, 3, 4, 5, 6, 7, 8, 9, 10] rfl) hS hA hev hT 0 9 rfl rfl rfl rfl hl.1 rfl (Nat.le_of_ble_eq_true rfl) dL_count_4 ⟨Nat.le_of_ble_eq_true rfl, Nat.le_of_ble_eq_true rfl⟩ (fun E ce q9 L9 f9 H locs hpx hT hE hP hD hS hce hcv hcl => ?_) (fun r L8 f8 H locs hw hT hE hP hD hS => ?_)
  · obtain ⟨rfl, hFx⟩ := hpx
    have hRF9 := hRF.fr hT0 hFx (by decide)
    have hCN9 := hCN.fr hT0 hFx (by decide)
    refine ck_catch (own := RL) (name := NSE) hown [] ⟨0, 9, 12, 13⟩ [] (by rw [htab]; rfl) (fun z hz => nomatch hz) (by decide) (by decide) (hts (.classLink RL 13 NSE) (by decide +kernel)) (hev.2.2.1.1.use rfl) hce hcv hcl ?_
    refine W.eq (g2 := F0 m 12 ls [.ref q9]) rfl ?_
    refine lv_astore_n (lv' := [(3, .ref q9), (0, .ref x0), (1, .int p0), (2, .ref ou)]) hx hb dL_count_12 rfl hl (by decide) rfl (fun ls hl => ?_)
    refine lv_iconst (v := 1) hx hb dL_count_13 (by decide) ?_
    exact M_i hx hb hr hlocks ((L9, f9), fo) hP hD hK hS ⟨⟨_, rfl⟩, hT.1, hE, hRF9, hCN9⟩ (Nat.le_of_ble_eq_true rfl) (Nat.le_of_ble_eq_true rfl) dL_count_14
  obtain ⟨⟨z_1, rfl⟩, hFr⟩ := hw
  have hRF9 := hRF.fr hT0 hFr (by decide)
  have hCN9 := hCN.fr hT0 hFr (by decide)
  refine W.eq (g2 := F0 m 7 ls [.int z_1, .int 0, .ref ou]) rfl ?_
  refine lv_i2l (v := (z_1).toInt64) hx hb dL_count_7 rfl ?_
  refine N_lastX hx hb hK hP hD hS 11 rfl dL_count_8 (fun fo_2 hfo_2 H locs hP hD hS => ?_)
  refine lv_goto (tgt := 15) hx hb dL_count_9 (by decide) ?_
  refine lv_iconst (v := 0) hx hb dL_count_15 (by decide) ?_
  exact M_i hx hb hr hlocks ((L8, f8), fo_2) hP hD hK hS ⟨⟨_, rfl⟩, hT.1, hE, hRF9, hCN9⟩ (Nat.le_of_ble_eq_true rfl) (Nat.le_of_ble_eq_true rfl) dL_count_16

abbrev rm_L_faded : Room := { frames := 8, cells := 2, slots := 12, locals := 128 }
set_option maxHeartbeats 800000 in
set_option maxRecDepth 100000 in
theorem w_faded (l : Launch) (dC : Nat → ClassId) (dI : Nat → Nat → Nat) (sa : Nat → Nat) (hlt : l.stackTraces = false) (g : Nat → Nat) (L : List Nat) (f : Nat → va_E) (x0 rdr tok tp ka sta vaa ou : Nat) (co : ClassId) (fo : Nat → Int64) (p0 p1 p2 tl fa pw : Int32) (tt : Nat → Int32) (sz : Nat) (hT : TP g L f (RLs g (x0, rdr, tok, tp, ka, sta, vaa))) (hRF : RF (x0, rdr, tok, tp, ka, sta, vaa) f) (hCN : CN (x0, rdr, tok, tp, ka, sta, vaa) f tl fa pw tt) (htl15 : tl.toInt ≤ 1500) : CT l dC dI sa yL_faded wsL_faded rm_L_faded [.ref x0, .int p0, .int p1, .int p2, .ref ou] (va_pl L f ++ [(ou, .inl (co, 1, .inr (.inl fo)))]) (tyG g ++ [(co, .long)]) sz (fun r (u : PL × (Nat → Int64)) => (∃ z : Int32, r = some (.int z)) ∧ WT g u.1.1 u.1.2 ∧ Ext L f u.1.1 u.1.2 ∧ RF (x0, rdr, tok, tp, ka, sta, vaa) u.1.2 ∧ CN (x0, rdr, tok, tp, ka, sta, vaa) u.1.2 tl fa pw tt) (fun u => va_pl u.1.1 u.1.2 ++ [(ou, .inl (co, 1, .inr (.inl u.2)))]) (fun _ => []) 2 12 := by
  refine CT.startW (hh := [(0, 12, 15, 13), (0, 12, 19, 18)]) (cc := cL_faded) (maxL := 6) (ret := (some .int)) (by decide) rfl (Nat.le_of_ble_eq_true rfl) ?_
  intro p e s m below meth c ls hst htab hP hK hD hev hS hl
  obtain ⟨hx, hb, hr, hml, hts, hown, hlocks, hin⟩ := hst
  have hown : s.vm.findClass RL = some m.cls := hown
  have hA : ∀ q : Nat, s.heap.size ≤ q → va_A (va_pl L f ++ [(ou, .inl (co, 1, .inr (.inl fo)))]) s.heap.size q := fun _ h => Or.inr h
  have hl : lv_has ls 6 [(0, .ref x0), (1, .int p0), (2, .int p1), (3, .int p2), (4, .ref ou)] := hl
  have hT0 := hT
  refine lv_aload hx hb dL_faded_0 (lv_at hl 4 rfl) ?_
  refine lv_iconst (v := 0) hx hb dL_faded_2 (by decide) ?_
  refine lv_aload_n hx hb dL_faded_3 rfl (lv_at hl 0 rfl) ?_
  refine lv_iload_n hx hb dL_faded_4 rfl (lv_at hl 1 rfl) ?_
  refine lv_iload_n hx hb dL_faded_5 rfl (lv_at hl 2 rfl) ?_
  refine lv_iload_n hx hb dL_faded_6 rfl (lv_at hl 3 rfl) ?_
  refine NU_VX ⟨hx, hb, hml, hown, hts⟩ (t_X9_faded l dC dI sa hlt g _ _ x0 p0 p1 p2 _ (hT.sub [0] rfl)) (cwV 3 hts gL_faded_X9_faded rfl rfl rfl (by decide +kernel) ⟨Nat.le_of_ble_eq_true rfl, Nat.le_of_ble_eq_true rfl⟩) hP hD (hK.sub [0, 1, 2, 3, 4, 5, 6, 7, 8, 9, 10] rfl) hS hA hev hT 0 9 rfl rfl rfl rfl hl.1 rfl (Nat.le_of_ble_eq_true rfl) dL_faded_7 ⟨Nat.le_of_ble_eq_true rfl, Nat.le_of_ble_eq_true rfl⟩ (fun E ce q9 L9 f9 H locs hpx hT hE hP hD hS hce hcv hcl => ?_) (fun r L8 f8 H locs hw hT hE hP hD hS => ?_)
  · obtain ⟨rfl | rfl, hFx⟩ := hpx
    · have hRF9 := hRF.fr hT0 hFx (by decide)
      have hCN9 := hCN.fr hT0 hFx (by decide)
      refine ck_catch (own := RL) (name := NSE) hown [] ⟨0, 12, 15, 13⟩ [⟨0, 12, 19, 18⟩] (by rw [htab]; rfl) (fun z hz => nomatch hz) (by decide) (by decide) (hts (.classLink RL 13 NSE) (by decide +kernel)) (hev.2.2.1.1.use rfl) hce hcv hcl ?_
      refine W.eq (g2 := F0 m 15 ls [.ref q9]) rfl ?_
      refine lv_astore (lv' := [(5, .ref q9), (0, .ref x0), (1, .int p0), (2, .int p1), (3, .int p2), (4, .ref ou)]) hx hb dL_faded_15 hl (by decide) rfl (fun ls hl => ?_)
      refine lv_iconst (v := 1) hx hb dL_faded_17 (by decide) ?_
      exact M_i hx hb hr hlocks ((L9, f9), fo) hP hD hK hS ⟨⟨_, rfl⟩, hT.1, hE, hRF9, hCN9⟩ (Nat.le_of_ble_eq_true rfl) (Nat.le_of_ble_eq_true rfl) dL_faded_18
    · have hRF9 := hRF.fr hT0 hFx (by decide)
      have hCN9 := hCN.fr hT0 hFx (by decide)
      refine ck_catch (own := RL) (name := IAE) hown [⟨0, 12, 15, 13⟩] ⟨0, 12, 19, 18⟩ [] (by rw [htab]; rfl) (fun z hz => by rcases List.mem_singleton.mp hz with rfl; exact Or.inr ⟨by decide, NSE, hts (.classLink RL 13 NSE) (by decide +kernel), hev.2.2.1.2.2⟩) (by decide) (by decide) (hts (.classLink RL 18 IAE) (by decide +kernel)) (hev.2.2.1.2.1.use rfl) hce hcv hcl ?_
      refine W.eq (g2 := F0 m 19 ls [.ref q9]) rfl ?_
      refine lv_astore (lv' := [(5, .ref q9), (0, .ref x0), (1, .int p0), (2, .int p1), (3, .int p2), (4, .ref ou)]) hx hb dL_faded_19 hl (by decide) rfl (fun ls hl => ?_)
      refine lv_iconst (v := 2) hx hb dL_faded_21 (by decide) ?_
      exact M_i hx hb hr hlocks ((L9, f9), fo) hP hD hK hS ⟨⟨_, rfl⟩, hT.1, hE, hRF9, hCN9⟩ (Nat.le_of_ble_eq_true rfl) (Nat.le_of_ble_eq_true rfl) dL_faded_22
  obtain ⟨⟨z_1, rfl⟩, hFr⟩ := hw
  have hRF9 := hRF.fr hT0 hFr (by decide)
  have hCN9 := hCN.fr hT0 hFr (by decide)
  refine W.eq (g2 := F0 m 10 ls [.int z_1, .int 0, .ref ou]) rfl ?_
  refine lv_i2l (v := (z_1).toInt64) hx hb dL_faded_10 rfl ?_
  refine N_lastX hx hb hK hP hD hS 11 rfl dL_faded_11 (fun fo_2 hfo_2 H locs hP hD hS => ?_)
  refine lv_goto (tgt := 23) hx hb dL_faded_12 (by decide) ?_
  refine lv_iconst (v := 0) hx hb dL_faded_23 (by decide) ?_
  exact M_i hx hb hr hlocks ((L8, f8), fo_2) hP hD hK hS ⟨⟨_, rfl⟩, hT.1, hE, hRF9, hCN9⟩ (Nat.le_of_ble_eq_true rfl) (Nat.le_of_ble_eq_true rfl) dL_faded_24

abbrev rm_L_matching : Room := { frames := 8, cells := 2, slots := 12, locals := 130 }
set_option maxHeartbeats 800000 in
set_option maxRecDepth 100000 in
theorem w_matching (l : Launch) (dC : Nat → ClassId) (dI : Nat → Nat → Nat) (sa : Nat → Nat) (hlt : l.stackTraces = false) (g : Nat → Nat) (L : List Nat) (f : Nat → va_E) (x0 rdr tok tp ka sta vaa ou : Nat) (co : ClassId) (fo : Nat → Int64) (p0 p1 tl fa pw : Int32) (tt : Nat → Int32) (sz : Nat) (hT : TP g L f (RLs g (x0, rdr, tok, tp, ka, sta, vaa))) (hRF : RF (x0, rdr, tok, tp, ka, sta, vaa) f) (hCN : CN (x0, rdr, tok, tp, ka, sta, vaa) f tl fa pw tt) (htl15 : tl.toInt ≤ 1500) : CT l dC dI sa yL_matching wsL_matching rm_L_matching [.ref x0, .int p0, .int p1, .ref ou] (va_pl L f ++ [(ou, .inl (co, 1, .inr (.inl fo)))]) (tyG g ++ [(co, .long)]) sz (fun r (u : PL × (Nat → Int64)) => (∃ z : Int32, r = some (.int z)) ∧ WT g u.1.1 u.1.2 ∧ Ext L f u.1.1 u.1.2 ∧ RF (x0, rdr, tok, tp, ka, sta, vaa) u.1.2 ∧ CN (x0, rdr, tok, tp, ka, sta, vaa) u.1.2 tl fa pw tt) (fun u => va_pl u.1.1 u.1.2 ++ [(ou, .inl (co, 1, .inr (.inl u.2)))]) (fun _ => []) 2 12 := by
  refine CT.startW (hh := [(0, 10, 13, 13), (0, 10, 17, 18)]) (cc := cL_matching) (maxL := 5) (ret := (some .int)) (by decide) rfl (Nat.le_of_ble_eq_true rfl) ?_
  intro p e s m below meth c ls hst htab hP hK hD hev hS hl
  obtain ⟨hx, hb, hr, hml, hts, hown, hlocks, hin⟩ := hst
  have hown : s.vm.findClass RL = some m.cls := hown
  have hA : ∀ q : Nat, s.heap.size ≤ q → va_A (va_pl L f ++ [(ou, .inl (co, 1, .inr (.inl fo)))]) s.heap.size q := fun _ h => Or.inr h
  have hl : lv_has ls 5 [(0, .ref x0), (1, .int p0), (2, .int p1), (3, .ref ou)] := hl
  have hT0 := hT
  refine lv_aload_n hx hb dL_matching_0 rfl (lv_at hl 3 rfl) ?_
  refine lv_iconst (v := 0) hx hb dL_matching_1 (by decide) ?_
  refine lv_aload_n hx hb dL_matching_2 rfl (lv_at hl 0 rfl) ?_
  refine lv_iload_n hx hb dL_matching_3 rfl (lv_at hl 1 rfl) ?_
  refine lv_iload_n hx hb dL_matching_4 rfl (lv_at hl 2 rfl) ?_
  refine NU_VX ⟨hx, hb, hml, hown, hts⟩ (t_X9_matching l dC dI sa hlt g _ _ x0 p0 p1 _ (hT.sub [0] rfl)) (cwV 2 hts gL_matching_X9_matching rfl rfl rfl (by decide +kernel) ⟨Nat.le_of_ble_eq_true rfl, Nat.le_of_ble_eq_true rfl⟩) hP hD (hK.sub [0, 1, 2, 3, 4, 5, 6, 7, 8, 9, 10] rfl) hS hA hev hT 0 9 rfl rfl rfl rfl hl.1 rfl (Nat.le_of_ble_eq_true rfl) dL_matching_5 ⟨Nat.le_of_ble_eq_true rfl, Nat.le_of_ble_eq_true rfl⟩ (fun E ce q9 L9 f9 H locs hpx hT hE hP hD hS hce hcv hcl => ?_) (fun r L8 f8 H locs hw hT hE hP hD hS => ?_)
  · obtain ⟨rfl | rfl, hFx⟩ := hpx
    · have hRF9 := hRF.fr hT0 hFx (by decide)
      have hCN9 := hCN.fr hT0 hFx (by decide)
      refine ck_catch (own := RL) (name := NSE) hown [] ⟨0, 10, 13, 13⟩ [⟨0, 10, 17, 18⟩] (by rw [htab]; rfl) (fun z hz => nomatch hz) (by decide) (by decide) (hts (.classLink RL 13 NSE) (by decide +kernel)) (hev.2.2.1.1.use rfl) hce hcv hcl ?_
      refine W.eq (g2 := F0 m 13 ls [.ref q9]) rfl ?_
      refine lv_astore (lv' := [(4, .ref q9), (0, .ref x0), (1, .int p0), (2, .int p1), (3, .ref ou)]) hx hb dL_matching_13 hl (by decide) rfl (fun ls hl => ?_)
      refine lv_iconst (v := 1) hx hb dL_matching_15 (by decide) ?_
      exact M_i hx hb hr hlocks ((L9, f9), fo) hP hD hK hS ⟨⟨_, rfl⟩, hT.1, hE, hRF9, hCN9⟩ (Nat.le_of_ble_eq_true rfl) (Nat.le_of_ble_eq_true rfl) dL_matching_16
    · have hRF9 := hRF.fr hT0 hFx (by decide)
      have hCN9 := hCN.fr hT0 hFx (by decide)
      refine ck_catch (own := RL) (name := IAE) hown [⟨0, 10, 13, 13⟩] ⟨0, 10, 17, 18⟩ [] (by rw [htab]; rfl) (fun z hz => by rcases List.mem_singleton.mp hz with rfl; exact Or.inr ⟨by decide, NSE, hts (.classLink RL 13 NSE) (by decide +kernel), hev.2.2.1.2.2⟩) (by decide) (by decide) (hts (.classLink RL 18 IAE) (by decide +kernel)) (hev.2.2.1.2.1.use rfl) hce hcv hcl ?_
      refine W.eq (g2 := F0 m 17 ls [.ref q9]) rfl ?_
      refine lv_astore (lv' := [(4, .ref q9), (0, .ref x0), (1, .int p0), (2, .int p1), (3, .ref ou)]) hx hb dL_matching_17 hl (by decide) rfl (fun ls hl => ?_)
      refine lv_iconst (v := 2) hx hb dL_matching_19 (by decide) ?_
      exact M_i hx hb hr hlocks ((L9, f9), fo) hP hD hK hS ⟨⟨_, rfl⟩, hT.1, hE, hRF9, hCN9⟩ (Nat.le_of_ble_eq_true rfl) (Nat.le_of_ble_eq_true rfl) dL_matching_20
  obtain ⟨⟨z_1, rfl⟩, hFr⟩ := hw
  have hRF9 := hRF.fr hT0 hFr (by decide)
  have hCN9 := hCN.fr hT0 hFr (by decide)
  refine W.eq (g2 := F0 m 8 ls [.int z_1, .int 0, .ref ou]) rfl ?_
  refine lv_i2l (v := (z_1).toInt64) hx hb dL_matching_8 rfl ?_
  refine N_lastX hx hb hK hP hD hS 11 rfl dL_matching_9 (fun fo_2 hfo_2 H locs hP hD hS => ?_)
  refine lv_goto (tgt := 21) hx hb dL_matching_10 (by decide) ?_
  refine lv_iconst (v := 0) hx hb dL_matching_21 (by decide) ?_
  exact M_i hx hb hr hlocks ((L8, f8), fo_2) hP hD hK hS ⟨⟨_, rfl⟩, hT.1, hE, hRF9, hCN9⟩ (Nat.le_of_ble_eq_true rfl) (Nat.le_of_ble_eq_true rfl) dL_matching_22
