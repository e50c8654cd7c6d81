theorem LI.mo {g : Nat → Nat} {h : HX} {B B2 : Int} {L : List Nat} {f : Nat → va_E} {i : Nat → Int32} {a : Nat → Nat → Int32} (hI : LI g h B L f i a) (hB : B ≤ B2) : LI g h B2 L f i a := ⟨hI.1, hI.2.1, hI.2.2.1.mo hB, hI.2.2.2⟩
theorem Eqx.ups {α : Type} {K : List Nat} {f g : Nat → α} {k : Nat} {v : α} (hv : v = g k) (h : Eqx K f g) : Eqx K (va_up f k v) g := fun j hj => by
  by_cases e : j = k
  · subst e; rw [hv]; exact va_up_self _ _ _
  · exact (va_up_ne _ _ e).trans (h j hj)
theorem wr_z {r : Option Value} {A : Int32 → Prop} {P : Prop} (h : (∃ v : Int32, r = some (.int 0) ∧ A v) ∨ (r = some (.int 1) ∧ P)) : ∃ z : Int32, r = some (.int z) := by
  rcases h with ⟨-, h, -⟩ | ⟨h, -⟩
  · exact ⟨_, h⟩
  · exact ⟨_, h⟩
theorem wr_z3 {r : Option Value} {A : Int32 → Prop} {P Q : Prop} (h : (∃ v : Int32, r = some (.int 0) ∧ A v) ∨ (r = some (.int 1) ∧ P) ∨ (r = some (.int 2) ∧ Q)) : ∃ z : Int32, r = some (.int z) := by
  rcases h with ⟨-, h, -⟩ | ⟨h, -⟩ | ⟨h, -⟩
  · exact ⟨_, h⟩
  · exact ⟨_, h⟩
  · exact ⟨_, h⟩
theorem st_f0 {g : Nat → Nat} {L L2 : List Nat} {f f2 : Nat → va_E} {x0 wk vs cl ru : Nat} {va : Nat → Nat} {s : AS} {r : Option Value} {A B : Int32 → Prop} {P : Prop} (h0 : SR g L f (x0, wk, vs, cl, ru, va) s) (hE : Ext L f L2 f2) (h : (∃ v : Int32, r = some (.int 0) ∧ (B v ∧ Fr [] L f f2) ∧ A v) ∨ (r = some (.int 1) ∧ P ∧ Fr [] L f f2)) : SR g L2 f2 (x0, wk, vs, cl, ru, va) s ∧ Fr [] L f f2 := by
  rcases h with ⟨v, -, ⟨-, h1⟩, -⟩ | ⟨-, -, h1⟩
  · exact ⟨h0.still hE h1 (by decide), h1⟩
  · exact ⟨h0.still hE h1 (by decide), h1⟩

set_option maxHeartbeats 4000000 in
set_option maxRecDepth 100000 in
theorem lo_charge {Z : State → Prop} {p : Program} {l : Launch} {e : Env} {s : State} {m : MethodId} {below : List Frame} {meth : Method} {c : Code} {b Ln : Nat} {xs : Nat → Int32} (hlt : l.stackTraces = false) (C0 : lw_At p s m meth c b Ln xs) (hLn : Ln ≤ 3072) {dC : Nat → ClassId} {dI : Nat → Nat → Nat} {sa : Nat → Nat} (hev : ev sa (fun q : Nat => s.heap.size ≤ q) s s.heap) {x0 rdr tok tp ka sta vaa wk vs cl ru pl tvr tc rc m0 ou : Nat} {va tv : Nat → Nat} {co : ClassId} {g gm bm : Nat → Nat} (hK : va_K (dC, dI) vwCl (tyG g ++ [(co, .long)] ++ tyM gm) s) {L : List Nat} {f : Nat → va_E} {fo : Nat → Int64} {i : Nat → Int32} {a : Nat → Nat → Int32} {H : Heap} {locs : List Loc} {ls : Array Slot} {cells slots t : Nat} {ii : Int32} (hI : LI g ((x0, rdr, tok, tp, ka, sta, vaa), (wk, vs, cl, ru, va), (pl, tvr, tc, tv), rc) ((10000 * t : Nat) : Int) L f i a) (hP : va_P (dC, dI) vwCl ((va_pl L f ++ [(ou, .inl (co, 1, .inr (.inl fo)))]) ++ mw gm m0 bm i a) H) (hD : va_D (fun q : Nat => s.heap.size ≤ q) ((va_pl L f ++ [(ou, .inl (co, 1, .inr (.inl fo)))]) ++ mw gm m0 bm i a)) (hS : va_S (fun q : Nat => s.heap.size ≤ q) s.heap H locs) (hl : lv_has ls 7 [(4, .int ii), (3, .ref ou), (2, .ref m0), (1, .ref x0), (0, .ref b)]) (hii : ii = nI (6 * t)) (ht : 6 * t + 6 ≤ Ln) (hc : cells + 2 ≤ 601024) (hs : slots + 12 ≤ 7293034) (hk : ∀ (L2 : List Nat) (f2 : Nat → va_E) (fo2 : Nat → Int64) (i2 : Nat → Int32) (a2 : Nat → Nat → Int32) (H : Heap) (locs : List Loc) (ls : Array Slot), LI g ((x0, rdr, tok, tp, ka, sta, vaa), (wk, vs, cl, ru, va), (pl, tvr, tc, tv), rc) ((10000 * (t + 1) : Nat) : Int) L2 f2 i2 a2 → ((∀ j : Nat, j ≠ 0 → i2 j = (chG (xs (6 * t + 1)) (xs (6 * t + 2)) (i, a)).2.2.1 j) ∧ a2 = (chG (xs (6 * t + 1)) (xs (6 * t + 2)) (i, a)).2.2.2) → va_P (dC, dI) vwCl ((va_pl L2 f2 ++ [(ou, .inl (co, 1, .inr (.inl fo2)))]) ++ mw gm m0 bm i2 a2) H → va_D (fun q : Nat => s.heap.size ≤ q) ((va_pl L2 f2 ++ [(ou, .inl (co, 1, .inr (.inl fo2)))]) ++ mw gm m0 bm i2 a2) → va_S (fun q : Nat => s.heap.size ≤ q) s.heap H locs → lv_has ls 7 [(4, .int ii), (3, .ref ou), (2, .ref m0), (1, .ref x0), (0, .ref b)] → W p l e room_1 s m #[Value.ref b] below meth c H locs (cells + 2) (slots + 12) Z (F0 m 1386 ls [])) : W p l e room_1 s m #[Value.ref b] below meth c H locs cells slots Z (F0 m 132 ls []) := by
  obtain ⟨hx, hb, hr, hml, hown, hts, hX, hbl, hlocks, hgv⟩ := id C0
  have hown : s.vm.findClass RL = some m.cls := hown
  have hA : ∀ q : Nat, s.heap.size ≤ q → (fun q : Nat => s.heap.size ≤ q) q := fun _ h => h
  have hbA : ¬ (fun q : Nat => s.heap.size ≤ q) b := Nat.not_le.mpr hbl
  obtain ⟨hT0, ⟨⟨hRF, tt, hCN, hag⟩, ⟨hSR, h7, hPL⟩, hTE⟩, hGI, ht2, hBI, hkp⟩ := id hI
  have hB9 : ((10000 * t : Nat) : Int) ≤ 9000000 := by omega
  refine lv_aload_n hx hb dL_law_132 rfl (lv_at hl 3 rfl) ?_
  refine lv_aload_n hx hb dL_law_133 rfl (lv_at hl 4 rfl) ?_
  refine lv_iload hx hb dL_law_134 (lv_at hl 0 rfl) ?_
  refine lv_iconst (v := 1) hx hb dL_law_136 (by decide) ?_
  refine lv_iadd hx hb dL_law_137 ?_
  refine lv_topi (fun z_1 ez_1 => ?_)
  refine va_sld hx hb hX hbl hbA hS (sc_in ez_1 hii (by decide : (1 : Int32) = nI 1) (by decide) ht hLn) dL_law_138 ?_
  refine lv_topi (fun z_2 ez_2 => ?_)
  refine lv_aload_n hx hb dL_law_139 rfl (lv_at hl 4 rfl) ?_
  refine lv_iload hx hb dL_law_140 (lv_at hl 0 rfl) ?_
  refine lv_iconst (v := 2) hx hb dL_law_142 (by decide) ?_
  refine lv_iadd hx hb dL_law_143 ?_
  refine lv_topi (fun z_3 ez_3 => ?_)
  refine va_sld hx hb hX hbl hbA hS (sc_in ez_3 hii (by decide : (2 : Int32) = nI 2) (by decide) ht hLn) dL_law_144 ?_
  refine lv_topi (fun z_4 ez_4 => ?_)
  refine lv_aload_n hx hb dL_law_145 rfl (lv_at hl 1 rfl) ?_
  refine NW_S (hh := [(0, 10, 13, 13)]) ⟨hx, hb, hml, hown, hts⟩ (wS_charge l dC dI sa g _ _ x0 ou co _ z_2 z_4 _ (hT0.sub [0] rfl) (fun sz => (t_X9_chargeS l dC dI sa hlt g _ _ va (i, a) x0 z_2 z_4 wk vs cl ru sz (hT0.sub [0, 7, 8, 9, 10] rfl) hSR.1.2.1 hSR.1.2.2.2.2.1 hSR.1.2.2.1 hSR.1.2.2.2.1 hSR ⟨hGI.1.1, hGI.1.2.1, hGI.1.2.2.1, Int.le_trans hGI.1.2.2.2 hB9⟩)) (fun _ _ _ h9 => h9.1) (fun _ _ _ h9 => h9.1.1)) (vx_cwSW 4 hts gL_law_L_charge rfl rfl rfl (by decide +kernel) ⟨Nat.le_of_ble_eq_true rfl, Nat.le_of_ble_eq_true rfl⟩) hP hD (hK.sub [0, 1, 2, 3, 4, 5, 6, 7, 8, 9, 10, 11] rfl) hS hA hev rfl hl.1 rfl (Nat.le_of_ble_eq_true rfl) dL_law_146 ⟨by show _ + 1 ≤ 601024; omega, by show _ + 6 ≤ 7293034; omega⟩ (fun r u H locs hw hP hD hS => ?_)
  obtain ⟨⟨L2, f2⟩, fo2⟩ := u
  obtain ⟨hW2, hE2, hw⟩ := hw
  have hE2 : Ext L f L2 f2 := hE2
  have hco : CO g L f L2 f2 (x0, wk, vs, cl, ru, va) (chG z_2 z_4 (i, a)) r (fo2 0) := co1 hSR hE2 (by decide) hw
  obtain ⟨z_5, rfl⟩ : ∃ z : Int32, r = some (.int z) := ⟨_, hco.1⟩
  have hP : va_P (dC, dI) vwCl ((va_pl L2 f2 ++ [(ou, .inl (co, 1, .inr (.inl fo2)))]) ++ mw gm m0 bm i a) _ := hP
  have hD : va_D _ ((va_pl L2 f2 ++ [(ou, .inl (co, 1, .inr (.inl fo2)))]) ++ mw gm m0 bm i a) := hD
  refine W.eq (g2 := F0 m 149 ls [.int z_5]) rfl ?_
  refine lv_istore (lv' := [(5, .int z_5), (4, .int ii), (3, .ref ou), (2, .ref m0), (1, .ref x0), (0, .ref b)]) hx hb dL_law_149 hl (by decide) rfl (fun ls hl => ?_)
  refine lv_aload_n hx hb dL_law_151 rfl (lv_at hl 3 rfl) ?_
  refine lv_aload_n hx hb dL_law_152 rfl (lv_at hl 5 rfl) ?_
  refine lv_iload hx hb dL_law_153 (lv_at hl 1 rfl) ?_
  refine lv_iconst (v := 1) hx hb dL_law_155 (by decide) ?_
  refine lv_iadd hx hb dL_law_156 ?_
  refine lv_topi (fun z_6 ez_6 => ?_)
  refine va_sld hx hb hX hbl hbA hS (sc_in ez_6 hii (by decide : (1 : Int32) = nI 1) (by decide) ht hLn) dL_law_157 ?_
  refine lv_topi (fun z_7 ez_7 => ?_)
  refine lv_aload_n hx hb dL_law_158 rfl (lv_at hl 5 rfl) ?_
  refine lv_iload hx hb dL_law_159 (lv_at hl 1 rfl) ?_
  refine lv_iconst (v := 2) hx hb dL_law_161 (by decide) ?_
  refine lv_iadd hx hb dL_law_162 ?_
  refine lv_topi (fun z_8 ez_8 => ?_)
  refine va_sld hx hb hX hbl hbA hS (sc_in ez_8 hii (by decide : (2 : Int32) = nI 2) (by decide) ht hLn) dL_law_163 ?_
  refine lv_topi (fun z_9 ez_9 => ?_)
  refine NV_V ⟨hx, hb, hml, hown, hts⟩ (m_X10_chargeE l dC dI sa gm m0 bm i a z_7 z_9 _ ) (cwV 2 hts gL_law_X10_charge rfl rfl rfl (by decide +kernel) ⟨Nat.le_of_ble_eq_true rfl, Nat.le_of_ble_eq_true rfl⟩) hP hD (hK.sub [12, 13, 14, 15, 16, 17, 18, 19, 20, 21, 22, 23, 24, 25, 26, 27, 28, 29, 30, 31, 32, 33, 34, 35, 36, 37, 38, 39, 40] rfl) hS hA hev rfl rfl rfl rfl hl.1 rfl (Nat.le_of_ble_eq_true rfl) dL_law_164 ⟨by show _ + 0 ≤ 601024; omega, by show _ + 0 ≤ 7293034; omega⟩ (fun r u H locs hw hP hD hS => ?_)
  obtain ⟨x0_10, x3_11, y4_12⟩ := u
  have hw : (∃ z : Int32, r = some (.int z)) ∧ (x0_10 = (chG z_7 z_9 (i, a)).1 ∧ ((chG z_7 z_9 (i, a)).1 = 0 → r = some (.int (chG z_7 z_9 (i, a)).2.1)) ∧ x3_11 = (chG z_7 z_9 (i, a)).2.2.1 3 ∧ y4_12 = (chG z_7 z_9 (i, a)).2.2.2 4) := hw
  obtain ⟨⟨z_13, rfl⟩, hwP⟩ := hw
  have hab0 : z_7 = z_2 := by rw [ez_7, ez_6, ez_2, ez_1]
  have hab1 : z_9 = z_4 := by rw [ez_9, ez_8, ez_4, ez_3]
  rw [hab0, hab1] at hwP
  obtain ⟨hm0, hm1, hn3, hn4⟩ := hwP
  have hX1 : ∀ j : Nat, j ≠ 0 → (va_up (va_up i 0 x0_10) 3 x3_11) j = (chG z_2 z_4 (i, a)).2.2.1 j := eqx_i fx_ch.1 (Eqx.up (by decide) (Eqx.up (by decide) Eqx.rf)) (by intro k hk; simp only [List.mem_cons, List.not_mem_nil, or_false] at hk; rcases hk with rfl <;> assumption)
  have hX2 : (va_up a 4 y4_12) = (chG z_2 z_4 (i, a)).2.2.2 := eqx_a fx_ch.2 (Eqx.up (by decide) Eqx.rf) (by intro k hk; simp only [List.mem_cons, List.not_mem_nil, or_false] at hk; rcases hk with rfl <;> assumption)
  obtain ⟨hth, hout, hI2⟩ := both_op (K := [3]) (KA_ := [4]) (i2 := (va_up (va_up i 0 x0_10) 3 x3_11)) (a2 := (va_up a 4 y4_12)) hI hW2 hE2 hco hGI.ch fx_ch hm0 hm1 (Eqx.up (by decide) (Eqx.up (by decide) Eqx.rf)) (Eqx.up (by decide) Eqx.rf) (by intro k hk; simp only [List.mem_cons, List.not_mem_nil, or_false] at hk; rcases hk with rfl <;> assumption) (by intro k hk; simp only [List.mem_cons, List.not_mem_nil, or_false] at hk; rcases hk with rfl <;> assumption) (by decide) (by decide)
  have hP : va_P (dC, dI) vwCl ((va_pl L2 f2 ++ [(ou, .inl (co, 1, .inr (.inl fo2)))]) ++ mw gm m0 bm (va_up (va_up i 0 x0_10) 3 x3_11) (va_up a 4 y4_12)) _ := hP
  have hD : va_D _ ((va_pl L2 f2 ++ [(ou, .inl (co, 1, .inr (.inl fo2)))]) ++ mw gm m0 bm (va_up (va_up i 0 x0_10) 3 x3_11) (va_up a 4 y4_12)) := hD
  refine W.eq (g2 := F0 m 167 ls [.int z_13]) rfl ?_
  refine lv_istore (lv' := [(6, .int z_13), (5, .int z_5), (4, .int ii), (3, .ref ou), (2, .ref m0), (1, .ref x0), (0, .ref b)]) hx hb dL_law_167 hl (by decide) rfl (fun ls hl => ?_)
  refine lv_aload_n hx hb dL_law_169 rfl (lv_at hl 4 rfl) ?_
  refine NV_V ⟨hx, hb, hml, hown, hts⟩ (m_X10_thrownX l dC dI sa gm m0 bm (va_up (va_up i 0 x0_10) 3 x3_11) (va_up a 4 y4_12)  _ ) (cwV 0 hts gL_law_X10_thrown rfl rfl rfl (by decide +kernel) ⟨Nat.le_of_ble_eq_true rfl, Nat.le_of_ble_eq_true rfl⟩) hP hD (hK.sub [12, 13, 14, 15, 16, 17, 18, 19, 20, 21, 22, 23, 24, 25, 26, 27, 28, 29, 30, 31, 32, 33, 34, 35, 36, 37, 38, 39, 40] rfl) hS hA hev rfl rfl rfl rfl hl.1 rfl (Nat.le_of_ble_eq_true rfl) dL_law_170 ⟨by show _ + 0 ≤ 601024; omega, by show _ + 0 ≤ 7293034; omega⟩ (fun r u H locs hw hP hD hS => ?_)
  have hw : (∃ z : Int32, r = some (.int z) ∧ (z = x0_10)) ∧ (True) := hw
  obtain ⟨⟨z_14, rfl, hz⟩, -⟩ := hw
  have hP : va_P (dC, dI) vwCl ((va_pl L2 f2 ++ [(ou, .inl (co, 1, .inr (.inl fo2)))]) ++ mw gm m0 bm (va_up (va_up i 0 x0_10) 3 x3_11) (va_up a 4 y4_12)) _ := hP
  have hD : va_D _ ((va_pl L2 f2 ++ [(ou, .inl (co, 1, .inr (.inl fo2)))]) ++ mw gm m0 bm (va_up (va_up i 0 x0_10) 3 x3_11) (va_up a 4 y4_12)) := hD
  refine W.eq (g2 := F0 m 173 ls [.int z_14]) rfl ?_
  refine lv_iload hx hb dL_law_173 (lv_at hl 1 rfl) ?_
  refine lv_icmp_eq (tgt := 180) hx hb dL_law_175 (by decide) (fun c_15 => ?_) (fun c_15 => ?_)
  rotate_left
  · exact absurd c_15 (fun h => h (hz.trans hth))
  refine lv_iload hx hb dL_law_180 (lv_at hl 1 rfl) ?_
  refine lv_if_ne (tgt := 197) hx hb dL_law_182 (by decide) (fun c_16 => ?_) (fun c_16 => ?_)
  · refine lv_goto (tgt := 1386) hx hb dL_law_197 (by decide) ?_
    exact W.widen (by omega) (by omega) (hk L2 f2 fo2 (va_up (va_up i 0 x0_10) 3 x3_11) (va_up a 4 y4_12) _ _ _ (hI2.mo (by omega)) (by rw [← sc_at ez_2 ez_1 hii (by decide : (1 : Int32) = nI 1) (show 6 * t + 1 < 4000 by omega), ← sc_at ez_4 ez_3 hii (by decide : (2 : Int32) = nI 2) (show 6 * t + 2 < 4000 by omega)]; exact ⟨hX1, hX2⟩) hP hD hS (lv_sub hl [2, 3, 4, 5, 6] rfl))
  · refine lv_aload_n hx hb dL_law_185 rfl (lv_at hl 3 rfl) ?_
    refine lv_iconst (v := 0) hx hb dL_law_186 (by decide) ?_
    refine N_lald hx hb hK hP 11 rfl dL_law_187 ?_
    refine lv_iload hx hb dL_law_188 (lv_at hl 0 rfl) ?_
    refine lv_i2l (v := (z_13).toInt64) hx hb dL_law_190 rfl ?_
    refine W.lcmp hx hb dL_law_191 ?_
    refine lv_topi (fun z_17 ez_17 => ?_)
    refine lv_if_eq (tgt := 197) hx hb dL_law_192 (by decide) (fun c_18 => ?_) (fun c_18 => ?_)
    rotate_left
    · exact absurd c_18 (fun h => h (ez_17.trans (lgc (hout c_16))))
    refine lv_goto (tgt := 1386) hx hb dL_law_197 (by decide) ?_
    exact W.widen (by omega) (by omega) (hk L2 f2 fo2 (va_up (va_up i 0 x0_10) 3 x3_11) (va_up a 4 y4_12) _ _ _ (hI2.mo (by omega)) (by rw [← sc_at ez_2 ez_1 hii (by decide : (1 : Int32) = nI 1) (show 6 * t + 1 < 4000 by omega), ← sc_at ez_4 ez_3 hii (by decide : (2 : Int32) = nI 2) (show 6 * t + 2 < 4000 by omega)]; exact ⟨hX1, hX2⟩) hP hD hS (lv_sub hl [2, 3, 4, 5, 6] rfl))

set_option maxHeartbeats 4000000 in
set_option maxRecDepth 100000 in
theorem lo_feed {Z : State → Prop} {p : Program} {l : Launch} {e : Env} {s : State} {m : MethodId} {below : List Frame} {meth : Method} {c : Code} {b Ln : Nat} {xs : Nat → Int32} (hlt : l.stackTraces = false) (C0 : lw_At p s m meth c b Ln xs) (hLn : Ln ≤ 3072) {dC : Nat → ClassId} {dI : Nat → Nat → Nat} {sa : Nat → Nat} (hev : ev sa (fun q : Nat => s.heap.size ≤ q) s s.heap) {x0 rdr tok tp ka sta vaa wk vs cl ru pl tvr tc rc m0 ou : Nat} {va tv : Nat → Nat} {co : ClassId} {g gm bm : Nat → Nat} (hK : va_K (dC, dI) vwCl (tyG g ++ [(co, .long)] ++ tyM gm) s) {L : List Nat} {f : Nat → va_E} {fo : Nat → Int64} {i : Nat → Int32} {a : Nat → Nat → Int32} {H : Heap} {locs : List Loc} {ls : Array Slot} {cells slots t : Nat} {ii : Int32} (hI : LI g ((x0, rdr, tok, tp, ka, sta, vaa), (wk, vs, cl, ru, va), (pl, tvr, tc, tv), rc) ((10000 * t : Nat) : Int) L f i a) (hP : va_P (dC, dI) vwCl ((va_pl L f ++ [(ou, .inl (co, 1, .inr (.inl fo)))]) ++ mw gm m0 bm i a) H) (hD : va_D (fun q : Nat => s.heap.size ≤ q) ((va_pl L f ++ [(ou, .inl (co, 1, .inr (.inl fo)))]) ++ mw gm m0 bm i a)) (hS : va_S (fun q : Nat => s.heap.size ≤ q) s.heap H locs) (hl : lv_has ls 7 [(4, .int ii), (3, .ref ou), (2, .ref m0), (1, .ref x0), (0, .ref b)]) (hii : ii = nI (6 * t)) (ht : 6 * t + 6 ≤ Ln) (hc : cells + 2 ≤ 601024) (hs : slots + 12 ≤ 7293034) (hk : ∀ (L2 : List Nat) (f2 : Nat → va_E) (fo2 : Nat → Int64) (i2 : Nat → Int32) (a2 : Nat → Nat → Int32) (H : Heap) (locs : List Loc) (ls : Array Slot), LI g ((x0, rdr, tok, tp, ka, sta, vaa), (wk, vs, cl, ru, va), (pl, tvr, tc, tv), rc) ((10000 * (t + 1) : Nat) : Int) L2 f2 i2 a2 → ((∀ j : Nat, j ≠ 0 → i2 j = (fdS (xs (6 * t + 1)) (xs (6 * t + 2)) (i, a)).2.2.1 j) ∧ a2 = (fdS (xs (6 * t + 1)) (xs (6 * t + 2)) (i, a)).2.2.2) → va_P (dC, dI) vwCl ((va_pl L2 f2 ++ [(ou, .inl (co, 1, .inr (.inl fo2)))]) ++ mw gm m0 bm i2 a2) H → va_D (fun q : Nat => s.heap.size ≤ q) ((va_pl L2 f2 ++ [(ou, .inl (co, 1, .inr (.inl fo2)))]) ++ mw gm m0 bm i2 a2) → va_S (fun q : Nat => s.heap.size ≤ q) s.heap H locs → lv_has ls 7 [(4, .int ii), (3, .ref ou), (2, .ref m0), (1, .ref x0), (0, .ref b)] → W p l e room_1 s m #[Value.ref b] below meth c H locs (cells + 2) (slots + 12) Z (F0 m 1386 ls [])) : W p l e room_1 s m #[Value.ref b] below meth c H locs cells slots Z (F0 m 200 ls []) := by
  obtain ⟨hx, hb, hr, hml, hown, hts, hX, hbl, hlocks, hgv⟩ := id C0
  have hown : s.vm.findClass RL = some m.cls := hown
  have hA : ∀ q : Nat, s.heap.size ≤ q → (fun q : Nat => s.heap.size ≤ q) q := fun _ h => h
  have hbA : ¬ (fun q : Nat => s.heap.size ≤ q) b := Nat.not_le.mpr hbl
  obtain ⟨hT0, ⟨⟨hRF, tt, hCN, hag⟩, ⟨hSR, h7, hPL⟩, hTE⟩, hGI, ht2, hBI, hkp⟩ := id hI
  have hB9 : ((10000 * t : Nat) : Int) ≤ 9000000 := by omega
  refine lv_aload_n hx hb dL_law_200 rfl (lv_at hl 3 rfl) ?_
  refine lv_aload_n hx hb dL_law_201 rfl (lv_at hl 4 rfl) ?_
  refine lv_iload hx hb dL_law_202 (lv_at hl 0 rfl) ?_
  refine lv_iconst (v := 1) hx hb dL_law_204 (by decide) ?_
  refine lv_iadd hx hb dL_law_205 ?_
  refine lv_topi (fun z_1 ez_1 => ?_)
  refine va_sld hx hb hX hbl hbA hS (sc_in ez_1 hii (by decide : (1 : Int32) = nI 1) (by decide) ht hLn) dL_law_206 ?_
  refine lv_topi (fun z_2 ez_2 => ?_)
  refine lv_aload_n hx hb dL_law_207 rfl (lv_at hl 4 rfl) ?_
  refine lv_iload hx hb dL_law_208 (lv_at hl 0 rfl) ?_
  refine lv_iconst (v := 2) hx hb dL_law_210 (by decide) ?_
  refine lv_iadd hx hb dL_law_211 ?_
  refine lv_topi (fun z_3 ez_3 => ?_)
  refine va_sld hx hb hX hbl hbA hS (sc_in ez_3 hii (by decide : (2 : Int32) = nI 2) (by decide) ht hLn) dL_law_212 ?_
  refine lv_topi (fun z_4 ez_4 => ?_)
  refine lv_aload_n hx hb dL_law_213 rfl (lv_at hl 1 rfl) ?_
  refine NW_S (hh := [(0, 10, 13, 13), (0, 10, 17, 18)]) ⟨hx, hb, hml, hown, hts⟩ (wS_feed l dC dI sa g _ _ x0 ou co _ z_2 z_4 _ (hT0.sub [0] rfl) (fun sz => (t_X9_feedS l dC dI sa hlt g _ _ va (i, a) x0 z_2 z_4 wk vs cl ru sz (hT0.sub [0, 7, 8, 9, 10] rfl) hSR.1.2.1 hSR.1.2.2.2.2.1 hSR.1.2.2.1 hSR.1.2.2.2.1 hSR ⟨hGI.1.1, hGI.1.2.1, hGI.1.2.2.1, Int.le_trans hGI.1.2.2.2 hB9⟩)) (fun _ _ _ h9 => h9.1) (fun _ _ _ h9 => h9.1.imp (fun q9 => q9.1) (fun q9 => q9.1))) (vx_cwSW 4 hts gL_law_L_feed rfl rfl rfl (by decide +kernel) ⟨Nat.le_of_ble_eq_true rfl, Nat.le_of_ble_eq_true rfl⟩) hP hD (hK.sub [0, 1, 2, 3, 4, 5, 6, 7, 8, 9, 10, 11] rfl) hS hA hev rfl hl.1 rfl (Nat.le_of_ble_eq_true rfl) dL_law_214 ⟨by show _ + 2 ≤ 601024; omega, by show _ + 12 ≤ 7293034; omega⟩ (fun r u H locs hw hP hD hS => ?_)
  obtain ⟨⟨L2, f2⟩, fo2⟩ := u
  obtain ⟨hW2, hE2, hw⟩ := hw
  have hE2 : Ext L f L2 f2 := hE2
  have hco : CO g L f L2 f2 (x0, wk, vs, cl, ru, va) (fdS z_2 z_4 (i, a)) r (fo2 0) := co2 hSR hE2 (by decide) (by decide) (by decide) hw
  obtain ⟨z_5, rfl⟩ : ∃ z : Int32, r = some (.int z) := ⟨_, hco.1⟩
  have hP : va_P (dC, dI) vwCl ((va_pl L2 f2 ++ [(ou, .inl (co, 1, .inr (.inl fo2)))]) ++ mw gm m0 bm i a) _ := hP
  have hD : va_D _ ((va_pl L2 f2 ++ [(ou, .inl (co, 1, .inr (.inl fo2)))]) ++ mw gm m0 bm i a) := hD
  refine W.eq (g2 := F0 m 217 ls [.int z_5]) rfl ?_
  refine lv_istore (lv' := [(5, .int z_5), (4, .int ii), (3, .ref ou), (2, .ref m0), (1, .ref x0), (0, .ref b)]) hx hb dL_law_217 hl (by decide) rfl (fun ls hl => ?_)
  refine lv_aload_n hx hb dL_law_219 rfl (lv_at hl 3 rfl) ?_
  refine lv_aload_n hx hb dL_law_220 rfl (lv_at hl 5 rfl) ?_
  refine lv_iload hx hb dL_law_221 (lv_at hl 1 rfl) ?_
  refine lv_iconst (v := 1) hx hb dL_law_223 (by decide) ?_
  refine lv_iadd hx hb dL_law_224 ?_
  refine lv_topi (fun z_6 ez_6 => ?_)
  refine va_sld hx hb hX hbl hbA hS (sc_in ez_6 hii (by decide : (1 : Int32) = nI 1) (by decide) ht hLn) dL_law_225 ?_
  refine lv_topi (fun z_7 ez_7 => ?_)
  refine lv_aload_n hx hb dL_law_226 rfl (lv_at hl 5 rfl) ?_
  refine lv_iload hx hb dL_law_227 (lv_at hl 1 rfl) ?_
  refine lv_iconst (v := 2) hx hb dL_law_229 (by decide) ?_
  refine lv_iadd hx hb dL_law_230 ?_
  refine lv_topi (fun z_8 ez_8 => ?_)
  refine va_sld hx hb hX hbl hbA hS (sc_in ez_8 hii (by decide : (2 : Int32) = nI 2) (by decide) ht hLn) dL_law_231 ?_
  refine lv_topi (fun z_9 ez_9 => ?_)
  refine NV_V ⟨hx, hb, hml, hown, hts⟩ (m_X10_feedE l dC dI sa gm m0 bm i a z_7 z_9 _ ) (cwV 2 hts gL_law_X10_feed rfl rfl rfl (by decide +kernel) ⟨Nat.le_of_ble_eq_true rfl, Nat.le_of_ble_eq_true rfl⟩) hP hD (hK.sub [12, 13, 14, 15, 16, 17, 18, 19, 20, 21, 22, 23, 24, 25, 26, 27, 28, 29, 30, 31, 32, 33, 34, 35, 36, 37, 38, 39, 40] rfl) hS hA hev rfl rfl rfl rfl hl.1 rfl (Nat.le_of_ble_eq_true rfl) dL_law_232 ⟨by show _ + 0 ≤ 601024; omega, by show _ + 0 ≤ 7293034; omega⟩ (fun r u H locs hw hP hD hS => ?_)
  obtain ⟨x0_10, y5_11, y7_12⟩ := u
  have hw : (∃ z : Int32, r = some (.int z)) ∧ (x0_10 = (fdS z_7 z_9 (i, a)).1 ∧ ((fdS z_7 z_9 (i, a)).1 = 0 → r = some (.int (fdS z_7 z_9 (i, a)).2.1)) ∧ y5_11 = (fdS z_7 z_9 (i, a)).2.2.2 5 ∧ y7_12 = (fdS z_7 z_9 (i, a)).2.2.2 7) := hw
  obtain ⟨⟨z_13, rfl⟩, hwP⟩ := hw
  have hab0 : z_7 = z_2 := by rw [ez_7, ez_6, ez_2, ez_1]
  have hab1 : z_9 = z_4 := by rw [ez_9, ez_8, ez_4, ez_3]
  rw [hab0, hab1] at hwP
  obtain ⟨hm0, hm1, hn5, hn7⟩ := hwP
  have hX1 : ∀ j : Nat, j ≠ 0 → (va_up i 0 x0_10) j = (fdS z_2 z_4 (i, a)).2.2.1 j := eqx_i fx_fd.1 (Eqx.up (by decide) Eqx.rf) (fun k hk => absurd hk (by simp))
  have hX2 : (va_up (va_up a 5 y5_11) 7 y7_12) = (fdS z_2 z_4 (i, a)).2.2.2 := eqx_a fx_fd.2 (Eqx.up (by decide) (Eqx.up (by decide) Eqx.rf)) (by intro k hk; simp only [List.mem_cons, List.not_mem_nil, or_false] at hk; rcases hk with rfl | rfl <;> assumption)
  obtain ⟨hth, hout, hI2⟩ := both_op (K := []) (KA_ := [5, 7]) (i2 := (va_up i 0 x0_10)) (a2 := (va_up (va_up a 5 y5_11) 7 y7_12)) hI hW2 hE2 hco hGI.fd fx_fd hm0 hm1 (Eqx.up (by decide) Eqx.rf) (Eqx.up (by decide) (Eqx.up (by decide) Eqx.rf)) (fun k hk => absurd hk (by simp)) (by intro k hk; simp only [List.mem_cons, List.not_mem_nil, or_false] at hk; rcases hk with rfl | rfl <;> assumption) (by decide) (by decide)
  have hP : va_P (dC, dI) vwCl ((va_pl L2 f2 ++ [(ou, .inl (co, 1, .inr (.inl fo2)))]) ++ mw gm m0 bm (va_up i 0 x0_10) (va_up (va_up a 5 y5_11) 7 y7_12)) _ := hP
  have hD : va_D _ ((va_pl L2 f2 ++ [(ou, .inl (co, 1, .inr (.inl fo2)))]) ++ mw gm m0 bm (va_up i 0 x0_10) (va_up (va_up a 5 y5_11) 7 y7_12)) := hD
  refine W.eq (g2 := F0 m 235 ls [.int z_13]) rfl ?_
  refine lv_istore (lv' := [(6, .int z_13), (5, .int z_5), (4, .int ii), (3, .ref ou), (2, .ref m0), (1, .ref x0), (0, .ref b)]) hx hb dL_law_235 hl (by decide) rfl (fun ls hl => ?_)
  refine lv_aload_n hx hb dL_law_237 rfl (lv_at hl 4 rfl) ?_
  refine NV_V ⟨hx, hb, hml, hown, hts⟩ (m_X10_thrownX l dC dI sa gm m0 bm (va_up i 0 x0_10) (va_up (va_up a 5 y5_11) 7 y7_12)  _ ) (cwV 0 hts gL_law_X10_thrown rfl rfl rfl (by decide +kernel) ⟨Nat.le_of_ble_eq_true rfl, Nat.le_of_ble_eq_true rfl⟩) hP hD (hK.sub [12, 13, 14, 15, 16, 17, 18, 19, 20, 21, 22, 23, 24, 25, 26, 27, 28, 29, 30, 31, 32, 33, 34, 35, 36, 37, 38, 39, 40] rfl) hS hA hev rfl rfl rfl rfl hl.1 rfl (Nat.le_of_ble_eq_true rfl) dL_law_238 ⟨by show _ + 0 ≤ 601024; omega, by show _ + 0 ≤ 7293034; omega⟩ (fun r u H locs hw hP hD hS => ?_)
  have hw : (∃ z : Int32, r = some (.int z) ∧ (z = x0_10)) ∧ (True) := hw
  obtain ⟨⟨z_14, rfl, hz⟩, -⟩ := hw
  have hP : va_P (dC, dI) vwCl ((va_pl L2 f2 ++ [(ou, .inl (co, 1, .inr (.inl fo2)))]) ++ mw gm m0 bm (va_up i 0 x0_10) (va_up (va_up a 5 y5_11) 7 y7_12)) _ := hP
  have hD : va_D _ ((va_pl L2 f2 ++ [(ou, .inl (co, 1, .inr (.inl fo2)))]) ++ mw gm m0 bm (va_up i 0 x0_10) (va_up (va_up a 5 y5_11) 7 y7_12)) := hD
  refine W.eq (g2 := F0 m 241 ls [.int z_14]) rfl ?_
  refine lv_iload hx hb dL_law_241 (lv_at hl 1 rfl) ?_
  refine lv_icmp_eq (tgt := 248) hx hb dL_law_243 (by decide) (fun c_15 => ?_) (fun c_15 => ?_)
  rotate_left
  · exact absurd c_15 (fun h => h (hz.trans hth))
  refine lv_iload hx hb dL_law_248 (lv_at hl 1 rfl) ?_
  refine lv_if_ne (tgt := 265) hx hb dL_law_250 (by decide) (fun c_16 => ?_) (fun c_16 => ?_)
  · refine lv_goto (tgt := 1386) hx hb dL_law_265 (by decide) ?_
    exact W.widen (by omega) (by omega) (hk L2 f2 fo2 (va_up i 0 x0_10) (va_up (va_up a 5 y5_11) 7 y7_12) _ _ _ (hI2.mo (by omega)) (by rw [← sc_at ez_2 ez_1 hii (by decide : (1 : Int32) = nI 1) (show 6 * t + 1 < 4000 by omega), ← sc_at ez_4 ez_3 hii (by decide : (2 : Int32) = nI 2) (show 6 * t + 2 < 4000 by omega)]; exact ⟨hX1, hX2⟩) hP hD hS (lv_sub hl [2, 3, 4, 5, 6] rfl))
  · refine lv_aload_n hx hb dL_law_253 rfl (lv_at hl 3 rfl) ?_
    refine lv_iconst (v := 0) hx hb dL_law_254 (by decide) ?_
    refine N_lald hx hb hK hP 11 rfl dL_law_255 ?_
    refine lv_iload hx hb dL_law_256 (lv_at hl 0 rfl) ?_
    refine lv_i2l (v := (z_13).toInt64) hx hb dL_law_258 rfl ?_
    refine W.lcmp hx hb dL_law_259 ?_
    refine lv_topi (fun z_17 ez_17 => ?_)
    refine lv_if_eq (tgt := 265) hx hb dL_law_260 (by decide) (fun c_18 => ?_) (fun c_18 => ?_)
    rotate_left
    · exact absurd c_18 (fun h => h (ez_17.trans (lgc (hout c_16))))
    refine lv_goto (tgt := 1386) hx hb dL_law_265 (by decide) ?_
    exact W.widen (by omega) (by omega) (hk L2 f2 fo2 (va_up i 0 x0_10) (va_up (va_up a 5 y5_11) 7 y7_12) _ _ _ (hI2.mo (by omega)) (by rw [← sc_at ez_2 ez_1 hii (by decide : (1 : Int32) = nI 1) (show 6 * t + 1 < 4000 by omega), ← sc_at ez_4 ez_3 hii (by decide : (2 : Int32) = nI 2) (show 6 * t + 2 < 4000 by omega)]; exact ⟨hX1, hX2⟩) hP hD hS (lv_sub hl [2, 3, 4, 5, 6] rfl))

set_option maxHeartbeats 4000000 in
set_option maxRecDepth 100000 in
theorem lo_lime {Z : State → Prop} {p : Program} {l : Launch} {e : Env} {s : State} {m : MethodId} {below : List Frame} {meth : Method} {c : Code} {b Ln : Nat} {xs : Nat → Int32} (hlt : l.stackTraces = false) (C0 : lw_At p s m meth c b Ln xs) (hLn : Ln ≤ 3072) {dC : Nat → ClassId} {dI : Nat → Nat → Nat} {sa : Nat → Nat} (hev : ev sa (fun q : Nat => s.heap.size ≤ q) s s.heap) {x0 rdr tok tp ka sta vaa wk vs cl ru pl tvr tc rc m0 ou : Nat} {va tv : Nat → Nat} {co : ClassId} {g gm bm : Nat → Nat} (hK : va_K (dC, dI) vwCl (tyG g ++ [(co, .long)] ++ tyM gm) s) {L : List Nat} {f : Nat → va_E} {fo : Nat → Int64} {i : Nat → Int32} {a : Nat → Nat → Int32} {H : Heap} {locs : List Loc} {ls : Array Slot} {cells slots t : Nat} {ii : Int32} (hI : LI g ((x0, rdr, tok, tp, ka, sta, vaa), (wk, vs, cl, ru, va), (pl, tvr, tc, tv), rc) ((10000 * t : Nat) : Int) L f i a) (hP : va_P (dC, dI) vwCl ((va_pl L f ++ [(ou, .inl (co, 1, .inr (.inl fo)))]) ++ mw gm m0 bm i a) H) (hD : va_D (fun q : Nat => s.heap.size ≤ q) ((va_pl L f ++ [(ou, .inl (co, 1, .inr (.inl fo)))]) ++ mw gm m0 bm i a)) (hS : va_S (fun q : Nat => s.heap.size ≤ q) s.heap H locs) (hl : lv_has ls 7 [(4, .int ii), (3, .ref ou), (2, .ref m0), (1, .ref x0), (0, .ref b)]) (hii : ii = nI (6 * t)) (ht : 6 * t + 6 ≤ Ln) (hc : cells + 2 ≤ 601024) (hs : slots + 12 ≤ 7293034) (hk : ∀ (L2 : List Nat) (f2 : Nat → va_E) (fo2 : Nat → Int64) (i2 : Nat → Int32) (a2 : Nat → Nat → Int32) (H : Heap) (locs : List Loc) (ls : Array Slot), LI g ((x0, rdr, tok, tp, ka, sta, vaa), (wk, vs, cl, ru, va), (pl, tvr, tc, tv), rc) ((10000 * (t + 1) : Nat) : Int) L2 f2 i2 a2 → ((∀ j : Nat, j ≠ 0 → i2 j = (lmS (xs (6 * t + 1)) (i, a)).2.2.1 j) ∧ a2 = (lmS (xs (6 * t + 1)) (i, a)).2.2.2) → va_P (dC, dI) vwCl ((va_pl L2 f2 ++ [(ou, .inl (co, 1, .inr (.inl fo2)))]) ++ mw gm m0 bm i2 a2) H → va_D (fun q : Nat => s.heap.size ≤ q) ((va_pl L2 f2 ++ [(ou, .inl (co, 1, .inr (.inl fo2)))]) ++ mw gm m0 bm i2 a2) → va_S (fun q : Nat => s.heap.size ≤ q) s.heap H locs → lv_has ls 7 [(4, .int ii), (3, .ref ou), (2, .ref m0), (1, .ref x0), (0, .ref b)] → W p l e room_1 s m #[Value.ref b] below meth c H locs (cells + 2) (slots + 12) Z (F0 m 1386 ls [])) : W p l e room_1 s m #[Value.ref b] below meth c H locs cells slots Z (F0 m 268 ls []) := by
  obtain ⟨hx, hb, hr, hml, hown, hts, hX, hbl, hlocks, hgv⟩ := id C0
  have hown : s.vm.findClass RL = some m.cls := hown
  have hA : ∀ q : Nat, s.heap.size ≤ q → (fun q : Nat => s.heap.size ≤ q) q := fun _ h => h
  have hbA : ¬ (fun q : Nat => s.heap.size ≤ q) b := Nat.not_le.mpr hbl
  obtain ⟨hT0, ⟨⟨hRF, tt, hCN, hag⟩, ⟨hSR, h7, hPL⟩, hTE⟩, hGI, ht2, hBI, hkp⟩ := id hI
  have hB9 : ((10000 * t : Nat) : Int) ≤ 9000000 := by omega
  refine lv_aload_n hx hb dL_law_268 rfl (lv_at hl 3 rfl) ?_
  refine lv_aload_n hx hb dL_law_269 rfl (lv_at hl 4 rfl) ?_
  refine lv_iload hx hb dL_law_270 (lv_at hl 0 rfl) ?_
  refine lv_iconst (v := 1) hx hb dL_law_272 (by decide) ?_
  refine lv_iadd hx hb dL_law_273 ?_
  refine lv_topi (fun z_1 ez_1 => ?_)
  refine va_sld hx hb hX hbl hbA hS (sc_in ez_1 hii (by decide : (1 : Int32) = nI 1) (by decide) ht hLn) dL_law_274 ?_
  refine lv_topi (fun z_2 ez_2 => ?_)
  refine lv_aload_n hx hb dL_law_275 rfl (lv_at hl 1 rfl) ?_
  refine NW_S (hh := [(0, 9, 12, 13)]) ⟨hx, hb, hml, hown, hts⟩ (wS_lime l dC dI sa g _ _ x0 ou co _ z_2 _ (hT0.sub [0] rfl) (fun sz => (t_X9_limeS l dC dI sa hlt g _ _ va (i, a) x0 z_2 wk vs cl ru sz (hT0.sub [0, 7, 8, 9, 10] rfl) hSR.1.2.1 hSR.1.2.2.2.2.1 hSR.1.2.2.1 hSR.1.2.2.2.1 hSR ⟨hGI.1.1, hGI.1.2.1, hGI.1.2.2.1, Int.le_trans hGI.1.2.2.2 hB9⟩)) (fun _ _ _ h9 => h9.1) (fun _ _ _ h9 => h9.1.1)) (vx_cwSW 3 hts gL_law_L_lime rfl rfl rfl (by decide +kernel) ⟨Nat.le_of_ble_eq_true rfl, Nat.le_of_ble_eq_true rfl⟩) hP hD (hK.sub [0, 1, 2, 3, 4, 5, 6, 7, 8, 9, 10, 11] rfl) hS hA hev rfl hl.1 rfl (Nat.le_of_ble_eq_true rfl) dL_law_276 ⟨by show _ + 1 ≤ 601024; omega, by show _ + 6 ≤ 7293034; omega⟩ (fun r u H locs hw hP hD hS => ?_)
  obtain ⟨⟨L2, f2⟩, fo2⟩ := u
  obtain ⟨hW2, hE2, hw⟩ := hw
  have hE2 : Ext L f L2 f2 := hE2
  have hco : CO g L f L2 f2 (x0, wk, vs, cl, ru, va) (lmS z_2 (i, a)) r (fo2 0) := co1 hSR hE2 (by decide) hw
  obtain ⟨z_3, rfl⟩ : ∃ z : Int32, r = some (.int z) := ⟨_, hco.1⟩
  have hP : va_P (dC, dI) vwCl ((va_pl L2 f2 ++ [(ou, .inl (co, 1, .inr (.inl fo2)))]) ++ mw gm m0 bm i a) _ := hP
  have hD : va_D _ ((va_pl L2 f2 ++ [(ou, .inl (co, 1, .inr (.inl fo2)))]) ++ mw gm m0 bm i a) := hD
  refine W.eq (g2 := F0 m 279 ls [.int z_3]) rfl ?_
  refine lv_istore (lv' := [(5, .int z_3), (4, .int ii), (3, .ref ou), (2, .ref m0), (1, .ref x0), (0, .ref b)]) hx hb dL_law_279 hl (by decide) rfl (fun ls hl => ?_)
  refine lv_aload_n hx hb dL_law_281 rfl (lv_at hl 3 rfl) ?_
  refine lv_aload_n hx hb dL_law_282 rfl (lv_at hl 5 rfl) ?_
  refine lv_iload hx hb dL_law_283 (lv_at hl 1 rfl) ?_
  refine lv_iconst (v := 1) hx hb dL_law_285 (by decide) ?_
  refine lv_iadd hx hb dL_law_286 ?_
  refine lv_topi (fun z_4 ez_4 => ?_)
  refine va_sld hx hb hX hbl hbA hS (sc_in ez_4 hii (by decide : (1 : Int32) = nI 1) (by decide) ht hLn) dL_law_287 ?_
  refine lv_topi (fun z_5 ez_5 => ?_)
  refine NV_V ⟨hx, hb, hml, hown, hts⟩ (m_X10_limeE l dC dI sa gm m0 bm i a z_5 _ ) (cwV 1 hts gL_law_X10_lime rfl rfl rfl (by decide +kernel) ⟨Nat.le_of_ble_eq_true rfl, Nat.le_of_ble_eq_true rfl⟩) hP hD (hK.sub [12, 13, 14, 15, 16, 17, 18, 19, 20, 21, 22, 23, 24, 25, 26, 27, 28, 29, 30, 31, 32, 33, 34, 35, 36, 37, 38, 39, 40] rfl) hS hA hev rfl rfl rfl rfl hl.1 rfl (Nat.le_of_ble_eq_true rfl) dL_law_288 ⟨by show _ + 0 ≤ 601024; omega, by show _ + 0 ≤ 7293034; omega⟩ (fun r u H locs hw hP hD hS => ?_)
  obtain ⟨x0_6, y5_7, y6_8, y7_9⟩ := u
  have hw : (∃ z : Int32, r = some (.int z)) ∧ (x0_6 = (lmS z_5 (i, a)).1 ∧ ((lmS z_5 (i, a)).1 = 0 → r = some (.int (lmS z_5 (i, a)).2.1)) ∧ y5_7 = (lmS z_5 (i, a)).2.2.2 5 ∧ y6_8 = (lmS z_5 (i, a)).2.2.2 6 ∧ y7_9 = (lmS z_5 (i, a)).2.2.2 7) := hw
  obtain ⟨⟨z_10, rfl⟩, hwP⟩ := hw
  have hab0 : z_5 = z_2 := by rw [ez_5, ez_4, ez_2, ez_1]
  rw [hab0] at hwP
  obtain ⟨hm0, hm1, hn5, hn6, hn7⟩ := hwP
  have hX1 : ∀ j : Nat, j ≠ 0 → (va_up i 0 x0_6) j = (lmS z_2 (i, a)).2.2.1 j := eqx_i fx_lm.1 (Eqx.up (by decide) Eqx.rf) (fun k hk => absurd hk (by simp))
  have hX2 : (va_up (va_up (va_up a 5 y5_7) 6 y6_8) 7 y7_9) = (lmS z_2 (i, a)).2.2.2 := eqx_a fx_lm.2 (Eqx.up (by decide) (Eqx.up (by decide) (Eqx.up (by decide) Eqx.rf))) (by intro k hk; simp only [List.mem_cons, List.not_mem_nil, or_false] at hk; rcases hk with rfl | rfl | rfl <;> assumption)
  obtain ⟨hth, hout, hI2⟩ := both_op (K := []) (KA_ := [5, 6, 7]) (i2 := (va_up i 0 x0_6)) (a2 := (va_up (va_up (va_up a 5 y5_7) 6 y6_8) 7 y7_9)) hI hW2 hE2 hco hGI.lm fx_lm hm0 hm1 (Eqx.up (by decide) Eqx.rf) (Eqx.up (by decide) (Eqx.up (by decide) (Eqx.up (by decide) Eqx.rf))) (fun k hk => absurd hk (by simp)) (by intro k hk; simp only [List.mem_cons, List.not_mem_nil, or_false] at hk; rcases hk with rfl | rfl | rfl <;> assumption) (by decide) (by decide)
  have hP : va_P (dC, dI) vwCl ((va_pl L2 f2 ++ [(ou, .inl (co, 1, .inr (.inl fo2)))]) ++ mw gm m0 bm (va_up i 0 x0_6) (va_up (va_up (va_up a 5 y5_7) 6 y6_8) 7 y7_9)) _ := hP
  have hD : va_D _ ((va_pl L2 f2 ++ [(ou, .inl (co, 1, .inr (.inl fo2)))]) ++ mw gm m0 bm (va_up i 0 x0_6) (va_up (va_up (va_up a 5 y5_7) 6 y6_8) 7 y7_9)) := hD
  refine W.eq (g2 := F0 m 291 ls [.int z_10]) rfl ?_
  refine lv_istore (lv' := [(6, .int z_10), (5, .int z_3), (4, .int ii), (3, .ref ou), (2, .ref m0), (1, .ref x0), (0, .ref b)]) hx hb dL_law_291 hl (by decide) rfl (fun ls hl => ?_)
  refine lv_aload_n hx hb dL_law_293 rfl (lv_at hl 4 rfl) ?_
  refine NV_V ⟨hx, hb, hml, hown, hts⟩ (m_X10_thrownX l dC dI sa gm m0 bm (va_up i 0 x0_6) (va_up (va_up (va_up a 5 y5_7) 6 y6_8) 7 y7_9)  _ ) (cwV 0 hts gL_law_X10_thrown rfl rfl rfl (by decide +kernel) ⟨Nat.le_of_ble_eq_true rfl, Nat.le_of_ble_eq_true rfl⟩) hP hD (hK.sub [12, 13, 14, 15, 16, 17, 18, 19, 20, 21, 22, 23, 24, 25, 26, 27, 28, 29, 30, 31, 32, 33, 34, 35, 36, 37, 38, 39, 40] rfl) hS hA hev rfl rfl rfl rfl hl.1 rfl (Nat.le_of_ble_eq_true rfl) dL_law_294 ⟨by show _ + 0 ≤ 601024; omega, by show _ + 0 ≤ 7293034; omega⟩ (fun r u H locs hw hP hD hS => ?_)
  have hw : (∃ z : Int32, r = some (.int z) ∧ (z = x0_6)) ∧ (True) := hw
  obtain ⟨⟨z_11, rfl, hz⟩, -⟩ := hw
  have hP : va_P (dC, dI) vwCl ((va_pl L2 f2 ++ [(ou, .inl (co, 1, .inr (.inl fo2)))]) ++ mw gm m0 bm (va_up i 0 x0_6) (va_up (va_up (va_up a 5 y5_7) 6 y6_8) 7 y7_9)) _ := hP
  have hD : va_D _ ((va_pl L2 f2 ++ [(ou, .inl (co, 1, .inr (.inl fo2)))]) ++ mw gm m0 bm (va_up i 0 x0_6) (va_up (va_up (va_up a 5 y5_7) 6 y6_8) 7 y7_9)) := hD
  refine W.eq (g2 := F0 m 297 ls [.int z_11]) rfl ?_
  refine lv_iload hx hb dL_law_297 (lv_at hl 1 rfl) ?_
  refine lv_icmp_eq (tgt := 304) hx hb dL_law_299 (by decide) (fun c_12 => ?_) (fun c_12 => ?_)
  rotate_left
  · exact absurd c_12 (fun h => h (hz.trans hth))
  refine lv_iload hx hb dL_law_304 (lv_at hl 1 rfl) ?_
  refine lv_if_ne (tgt := 321) hx hb dL_law_306 (by decide) (fun c_13 => ?_) (fun c_13 => ?_)
  · refine lv_goto (tgt := 1386) hx hb dL_law_321 (by decide) ?_
    exact W.widen (by omega) (by omega) (hk L2 f2 fo2 (va_up i 0 x0_6) (va_up (va_up (va_up a 5 y5_7) 6 y6_8) 7 y7_9) _ _ _ (hI2.mo (by omega)) (by rw [← sc_at ez_2 ez_1 hii (by decide : (1 : Int32) = nI 1) (show 6 * t + 1 < 4000 by omega)]; exact ⟨hX1, hX2⟩) hP hD hS (lv_sub hl [2, 3, 4, 5, 6] rfl))
  · refine lv_aload_n hx hb dL_law_309 rfl (lv_at hl 3 rfl) ?_
    refine lv_iconst (v := 0) hx hb dL_law_310 (by decide) ?_
    refine N_lald hx hb hK hP 11 rfl dL_law_311 ?_
    refine lv_iload hx hb dL_law_312 (lv_at hl 0 rfl) ?_
    refine lv_i2l (v := (z_10).toInt64) hx hb dL_law_314 rfl ?_
    refine W.lcmp hx hb dL_law_315 ?_
    refine lv_topi (fun z_14 ez_14 => ?_)
    refine lv_if_eq (tgt := 321) hx hb dL_law_316 (by decide) (fun c_15 => ?_) (fun c_15 => ?_)
    rotate_left
    · exact absurd c_15 (fun h => h (ez_14.trans (lgc (hout c_13))))
    refine lv_goto (tgt := 1386) hx hb dL_law_321 (by decide) ?_
    exact W.widen (by omega) (by omega) (hk L2 f2 fo2 (va_up i 0 x0_6) (va_up (va_up (va_up a 5 y5_7) 6 y6_8) 7 y7_9) _ _ _ (hI2.mo (by omega)) (by rw [← sc_at ez_2 ez_1 hii (by decide : (1 : Int32) = nI 1) (show 6 * t + 1 < 4000 by omega)]; exact ⟨hX1, hX2⟩) hP hD hS (lv_sub hl [2, 3, 4, 5, 6] rfl))

set_option maxHeartbeats 4000000 in
set_option maxRecDepth 100000 in
theorem lo_treat {Z : State → Prop} {p : Program} {l : Launch} {e : Env} {s : State} {m : MethodId} {below : List Frame} {meth : Method} {c : Code} {b Ln : Nat} {xs : Nat → Int32} (hlt : l.stackTraces = false) (C0 : lw_At p s m meth c b Ln xs) (hLn : Ln ≤ 3072) {dC : Nat → ClassId} {dI : Nat → Nat → Nat} {sa : Nat → Nat} (hev : ev sa (fun q : Nat => s.heap.size ≤ q) s s.heap) {x0 rdr tok tp ka sta vaa wk vs cl ru pl tvr tc rc m0 ou : Nat} {va tv : Nat → Nat} {co : ClassId} {g gm bm : Nat → Nat} (hK : va_K (dC, dI) vwCl (tyG g ++ [(co, .long)] ++ tyM gm) s) {L : List Nat} {f : Nat → va_E} {fo : Nat → Int64} {i : Nat → Int32} {a : Nat → Nat → Int32} {H : Heap} {locs : List Loc} {ls : Array Slot} {cells slots t : Nat} {ii : Int32} (hI : LI g ((x0, rdr, tok, tp, ka, sta, vaa), (wk, vs, cl, ru, va), (pl, tvr, tc, tv), rc) ((10000 * t : Nat) : Int) L f i a) (hP : va_P (dC, dI) vwCl ((va_pl L f ++ [(ou, .inl (co, 1, .inr (.inl fo)))]) ++ mw gm m0 bm i a) H) (hD : va_D (fun q : Nat => s.heap.size ≤ q) ((va_pl L f ++ [(ou, .inl (co, 1, .inr (.inl fo)))]) ++ mw gm m0 bm i a)) (hS : va_S (fun q : Nat => s.heap.size ≤ q) s.heap H locs) (hl : lv_has ls 7 [(4, .int ii), (3, .ref ou), (2, .ref m0), (1, .ref x0), (0, .ref b)]) (hii : ii = nI (6 * t)) (ht : 6 * t + 6 ≤ Ln) (hc : cells + 2 ≤ 601024) (hs : slots + 12 ≤ 7293034) (hk : ∀ (L2 : List Nat) (f2 : Nat → va_E) (fo2 : Nat → Int64) (i2 : Nat → Int32) (a2 : Nat → Nat → Int32) (H : Heap) (locs : List Loc) (ls : Array Slot), LI g ((x0, rdr, tok, tp, ka, sta, vaa), (wk, vs, cl, ru, va), (pl, tvr, tc, tv), rc) ((10000 * (t + 1) : Nat) : Int) L2 f2 i2 a2 → ((∀ j : Nat, j ≠ 0 → i2 j = (trS (xs (6 * t + 1)) (xs (6 * t + 2)) (i, a)).2.2.1 j) ∧ a2 = (trS (xs (6 * t + 1)) (xs (6 * t + 2)) (i, a)).2.2.2) → va_P (dC, dI) vwCl ((va_pl L2 f2 ++ [(ou, .inl (co, 1, .inr (.inl fo2)))]) ++ mw gm m0 bm i2 a2) H → va_D (fun q : Nat => s.heap.size ≤ q) ((va_pl L2 f2 ++ [(ou, .inl (co, 1, .inr (.inl fo2)))]) ++ mw gm m0 bm i2 a2) → va_S (fun q : Nat => s.heap.size ≤ q) s.heap H locs → lv_has ls 7 [(4, .int ii), (3, .ref ou), (2, .ref m0), (1, .ref x0), (0, .ref b)] → W p l e room_1 s m #[Value.ref b] below meth c H locs (cells + 2) (slots + 12) Z (F0 m 1386 ls [])) : W p l e room_1 s m #[Value.ref b] below meth c H locs cells slots Z (F0 m 485 ls []) := by
  obtain ⟨hx, hb, hr, hml, hown, hts, hX, hbl, hlocks, hgv⟩ := id C0
  have hown : s.vm.findClass RL = some m.cls := hown
  have hA : ∀ q : Nat, s.heap.size ≤ q → (fun q : Nat => s.heap.size ≤ q) q := fun _ h => h
  have hbA : ¬ (fun q : Nat => s.heap.size ≤ q) b := Nat.not_le.mpr hbl
  obtain ⟨hT0, ⟨⟨hRF, tt, hCN, hag⟩, ⟨hSR, h7, hPL⟩, hTE⟩, hGI, ht2, hBI, hkp⟩ := id hI
  have hB9 : ((10000 * t : Nat) : Int) ≤ 9000000 := by omega
  refine lv_aload_n hx hb dL_law_485 rfl (lv_at hl 3 rfl) ?_
  refine lv_aload_n hx hb dL_law_486 rfl (lv_at hl 4 rfl) ?_
  refine lv_iload hx hb dL_law_487 (lv_at hl 0 rfl) ?_
  refine lv_iconst (v := 1) hx hb dL_law_489 (by decide) ?_
  refine lv_iadd hx hb dL_law_490 ?_
  refine lv_topi (fun z_1 ez_1 => ?_)
  refine va_sld hx hb hX hbl hbA hS (sc_in ez_1 hii (by decide : (1 : Int32) = nI 1) (by decide) ht hLn) dL_law_491 ?_
  refine lv_topi (fun z_2 ez_2 => ?_)
  refine lv_aload_n hx hb dL_law_492 rfl (lv_at hl 4 rfl) ?_
  refine lv_iload hx hb dL_law_493 (lv_at hl 0 rfl) ?_
  refine lv_iconst (v := 2) hx hb dL_law_495 (by decide) ?_
  refine lv_iadd hx hb dL_law_496 ?_
  refine lv_topi (fun z_3 ez_3 => ?_)
  refine va_sld hx hb hX hbl hbA hS (sc_in ez_3 hii (by decide : (2 : Int32) = nI 2) (by decide) ht hLn) dL_law_497 ?_
  refine lv_topi (fun z_4 ez_4 => ?_)
  refine lv_aload_n hx hb dL_law_498 rfl (lv_at hl 1 rfl) ?_
  refine NW_S (hh := [(0, 10, 13, 13), (0, 10, 17, 18)]) ⟨hx, hb, hml, hown, hts⟩ (wS_treat l dC dI sa g _ _ x0 ou co _ z_2 z_4 _ (hT0.sub [0] rfl) (fun sz => (t_X9_treatS l dC dI sa hlt g _ _ va (i, a) x0 z_2 z_4 wk vs cl ru sz (hT0.sub [0, 7, 8, 9, 10] rfl) hSR.1.2.1 hSR.1.2.2.2.2.1 hSR.1.2.2.1 hSR.1.2.2.2.1 hSR ⟨hGI.1.1, hGI.1.2.1, hGI.1.2.2.1, Int.le_trans hGI.1.2.2.2 hB9⟩)) (fun _ _ _ h9 => h9.1) (fun _ _ _ h9 => h9.1.imp (fun q9 => q9.1) (fun q9 => q9.1))) (vx_cwSW 4 hts gL_law_L_treat rfl rfl rfl (by decide +kernel) ⟨Nat.le_of_ble_eq_true rfl, Nat.le_of_ble_eq_true rfl⟩) hP hD (hK.sub [0, 1, 2, 3, 4, 5, 6, 7, 8, 9, 10, 11] rfl) hS hA hev rfl hl.1 rfl (Nat.le_of_ble_eq_true rfl) dL_law_499 ⟨by show _ + 2 ≤ 601024; omega, by show _ + 12 ≤ 7293034; omega⟩ (fun r u H locs hw hP hD hS => ?_)
  obtain ⟨⟨L2, f2⟩, fo2⟩ := u
  obtain ⟨hW2, hE2, hw⟩ := hw
  have hE2 : Ext L f L2 f2 := hE2
  have hco : CO g L f L2 f2 (x0, wk, vs, cl, ru, va) (trS z_2 z_4 (i, a)) r (fo2 0) := co2 hSR hE2 (by decide) (by decide) (by decide) hw
  obtain ⟨z_5, rfl⟩ : ∃ z : Int32, r = some (.int z) := ⟨_, hco.1⟩
  have hP : va_P (dC, dI) vwCl ((va_pl L2 f2 ++ [(ou, .inl (co, 1, .inr (.inl fo2)))]) ++ mw gm m0 bm i a) _ := hP
  have hD : va_D _ ((va_pl L2 f2 ++ [(ou, .inl (co, 1, .inr (.inl fo2)))]) ++ mw gm m0 bm i a) := hD
  refine W.eq (g2 := F0 m 502 ls [.int z_5]) rfl ?_
  refine lv_istore (lv' := [(5, .int z_5), (4, .int ii), (3, .ref ou), (2, .ref m0), (1, .ref x0), (0, .ref b)]) hx hb dL_law_502 hl (by decide) rfl (fun ls hl => ?_)
  refine lv_aload_n hx hb dL_law_504 rfl (lv_at hl 3 rfl) ?_
  refine lv_aload_n hx hb dL_law_505 rfl (lv_at hl 5 rfl) ?_
  refine lv_iload hx hb dL_law_506 (lv_at hl 1 rfl) ?_
  refine lv_iconst (v := 1) hx hb dL_law_508 (by decide) ?_
  refine lv_iadd hx hb dL_law_509 ?_
  refine lv_topi (fun z_6 ez_6 => ?_)
  refine va_sld hx hb hX hbl hbA hS (sc_in ez_6 hii (by decide : (1 : Int32) = nI 1) (by decide) ht hLn) dL_law_510 ?_
  refine lv_topi (fun z_7 ez_7 => ?_)
  refine lv_aload_n hx hb dL_law_511 rfl (lv_at hl 5 rfl) ?_
  refine lv_iload hx hb dL_law_512 (lv_at hl 1 rfl) ?_
  refine lv_iconst (v := 2) hx hb dL_law_514 (by decide) ?_
  refine lv_iadd hx hb dL_law_515 ?_
  refine lv_topi (fun z_8 ez_8 => ?_)
  refine va_sld hx hb hX hbl hbA hS (sc_in ez_8 hii (by decide : (2 : Int32) = nI 2) (by decide) ht hLn) dL_law_516 ?_
  refine lv_topi (fun z_9 ez_9 => ?_)
  refine NV_V ⟨hx, hb, hml, hown, hts⟩ (m_X10_treatE l dC dI sa gm m0 bm i a z_7 z_9 _ hGI.1.2.1) (cwV 2 hts gL_law_X10_treat rfl rfl rfl (by decide +kernel) ⟨Nat.le_of_ble_eq_true rfl, Nat.le_of_ble_eq_true rfl⟩) hP hD (hK.sub [12, 13, 14, 15, 16, 17, 18, 19, 20, 21, 22, 23, 24, 25, 26, 27, 28, 29, 30, 31, 32, 33, 34, 35, 36, 37, 38, 39, 40] rfl) hS hA hev rfl rfl rfl rfl hl.1 rfl (Nat.le_of_ble_eq_true rfl) dL_law_517 ⟨by show _ + 0 ≤ 601024; omega, by show _ + 0 ≤ 7293034; omega⟩ (fun r u H locs hw hP hD hS => ?_)
  obtain ⟨x0_10, x2_11, y14_12, y15_13, y16_14⟩ := u
  have hw : (∃ z : Int32, r = some (.int z)) ∧ (x0_10 = (trS z_7 z_9 (i, a)).1 ∧ ((trS z_7 z_9 (i, a)).1 = 0 → r = some (.int (trS z_7 z_9 (i, a)).2.1)) ∧ x2_11 = (trS z_7 z_9 (i, a)).2.2.1 2 ∧ y14_12 = (trS z_7 z_9 (i, a)).2.2.2 14 ∧ y15_13 = (trS z_7 z_9 (i, a)).2.2.2 15 ∧ y16_14 = (trS z_7 z_9 (i, a)).2.2.2 16) := hw
  obtain ⟨⟨z_15, rfl⟩, hwP⟩ := hw
  have hab0 : z_7 = z_2 := by rw [ez_7, ez_6, ez_2, ez_1]
  have hab1 : z_9 = z_4 := by rw [ez_9, ez_8, ez_4, ez_3]
  rw [hab0, hab1] at hwP
  obtain ⟨hm0, hm1, hn2, hn14, hn15, hn16⟩ := hwP
  have hX1 : ∀ j : Nat, j ≠ 0 → (va_up (va_up i 0 x0_10) 2 x2_11) j = (trS z_2 z_4 (i, a)).2.2.1 j := eqx_i fx_tr.1 (Eqx.up (by decide) (Eqx.up (by decide) Eqx.rf)) (by intro k hk; simp only [List.mem_cons, List.not_mem_nil, or_false] at hk; rcases hk with rfl <;> assumption)
  have hX2 : (va_up (va_up (va_up a 14 y14_12) 15 y15_13) 16 y16_14) = (trS z_2 z_4 (i, a)).2.2.2 := eqx_a fx_tr.2 (Eqx.up (by decide) (Eqx.up (by decide) (Eqx.up (by decide) Eqx.rf))) (by intro k hk; simp only [List.mem_cons, List.not_mem_nil, or_false] at hk; rcases hk with rfl | rfl | rfl <;> assumption)
  obtain ⟨hth, hout, hI2⟩ := both_op (K := [2]) (KA_ := [14, 15, 16]) (i2 := (va_up (va_up i 0 x0_10) 2 x2_11)) (a2 := (va_up (va_up (va_up a 14 y14_12) 15 y15_13) 16 y16_14)) hI hW2 hE2 hco hGI.tr fx_tr hm0 hm1 (Eqx.up (by decide) (Eqx.up (by decide) Eqx.rf)) (Eqx.up (by decide) (Eqx.up (by decide) (Eqx.up (by decide) Eqx.rf))) (by intro k hk; simp only [List.mem_cons, List.not_mem_nil, or_false] at hk; rcases hk with rfl <;> assumption) (by intro k hk; simp only [List.mem_cons, List.not_mem_nil, or_false] at hk; rcases hk with rfl | rfl | rfl <;> assumption) (by decide) (by decide)
  have hP : va_P (dC, dI) vwCl ((va_pl L2 f2 ++ [(ou, .inl (co, 1, .inr (.inl fo2)))]) ++ mw gm m0 bm (va_up (va_up i 0 x0_10) 2 x2_11) (va_up (va_up (va_up a 14 y14_12) 15 y15_13) 16 y16_14)) _ := hP
  have hD : va_D _ ((va_pl L2 f2 ++ [(ou, .inl (co, 1, .inr (.inl fo2)))]) ++ mw gm m0 bm (va_up (va_up i 0 x0_10) 2 x2_11) (va_up (va_up (va_up a 14 y14_12) 15 y15_13) 16 y16_14)) := hD
  refine W.eq (g2 := F0 m 520 ls [.int z_15]) rfl ?_
  refine lv_istore (lv' := [(6, .int z_15), (5, .int z_5), (4, .int ii), (3, .ref ou), (2, .ref m0), (1, .ref x0), (0, .ref b)]) hx hb dL_law_520 hl (by decide) rfl (fun ls hl => ?_)
  refine lv_aload_n hx hb dL_law_522 rfl (lv_at hl 4 rfl) ?_
  refine NV_V ⟨hx, hb, hml, hown, hts⟩ (m_X10_thrownX l dC dI sa gm m0 bm (va_up (va_up i 0 x0_10) 2 x2_11) (va_up (va_up (va_up a 14 y14_12) 15 y15_13) 16 y16_14)  _ ) (cwV 0 hts gL_law_X10_thrown rfl rfl rfl (by decide +kernel) ⟨Nat.le_of_ble_eq_true rfl, Nat.le_of_ble_eq_true rfl⟩) hP hD (hK.sub [12, 13, 14, 15, 16, 17, 18, 19, 20, 21, 22, 23, 24, 25, 26, 27, 28, 29, 30, 31, 32, 33, 34, 35, 36, 37, 38, 39, 40] rfl) hS hA hev rfl rfl rfl rfl hl.1 rfl (Nat.le_of_ble_eq_true rfl) dL_law_523 ⟨by show _ + 0 ≤ 601024; omega, by show _ + 0 ≤ 7293034; omega⟩ (fun r u H locs hw hP hD hS => ?_)
  have hw : (∃ z : Int32, r = some (.int z) ∧ (z = x0_10)) ∧ (True) := hw
  obtain ⟨⟨z_16, rfl, hz⟩, -⟩ := hw
  have hP : va_P (dC, dI) vwCl ((va_pl L2 f2 ++ [(ou, .inl (co, 1, .inr (.inl fo2)))]) ++ mw gm m0 bm (va_up (va_up i 0 x0_10) 2 x2_11) (va_up (va_up (va_up a 14 y14_12) 15 y15_13) 16 y16_14)) _ := hP
  have hD : va_D _ ((va_pl L2 f2 ++ [(ou, .inl (co, 1, .inr (.inl fo2)))]) ++ mw gm m0 bm (va_up (va_up i 0 x0_10) 2 x2_11) (va_up (va_up (va_up a 14 y14_12) 15 y15_13) 16 y16_14)) := hD
  refine W.eq (g2 := F0 m 526 ls [.int z_16]) rfl ?_
  refine lv_iload hx hb dL_law_526 (lv_at hl 1 rfl) ?_
  refine lv_icmp_eq (tgt := 533) hx hb dL_law_528 (by decide) (fun c_17 => ?_) (fun c_17 => ?_)
  rotate_left
  · exact absurd c_17 (fun h => h (hz.trans hth))
  refine lv_iload hx hb dL_law_533 (lv_at hl 1 rfl) ?_
  refine lv_if_ne (tgt := 550) hx hb dL_law_535 (by decide) (fun c_18 => ?_) (fun c_18 => ?_)
  · refine lv_goto (tgt := 1386) hx hb dL_law_550 (by decide) ?_
    exact W.widen (by omega) (by omega) (hk L2 f2 fo2 (va_up (va_up i 0 x0_10) 2 x2_11) (va_up (va_up (va_up a 14 y14_12) 15 y15_13) 16 y16_14) _ _ _ (hI2.mo (by omega)) (by rw [← sc_at ez_2 ez_1 hii (by decide : (1 : Int32) = nI 1) (show 6 * t + 1 < 4000 by omega), ← sc_at ez_4 ez_3 hii (by decide : (2 : Int32) = nI 2) (show 6 * t + 2 < 4000 by omega)]; exact ⟨hX1, hX2⟩) hP hD hS (lv_sub hl [2, 3, 4, 5, 6] rfl))
  · refine lv_aload_n hx hb dL_law_538 rfl (lv_at hl 3 rfl) ?_
    refine lv_iconst (v := 0) hx hb dL_law_539 (by decide) ?_
    refine N_lald hx hb hK hP 11 rfl dL_law_540 ?_
    refine lv_iload hx hb dL_law_541 (lv_at hl 0 rfl) ?_
    refine lv_i2l (v := (z_15).toInt64) hx hb dL_law_543 rfl ?_
    refine W.lcmp hx hb dL_law_544 ?_
    refine lv_topi (fun z_19 ez_19 => ?_)
    refine lv_if_eq (tgt := 550) hx hb dL_law_545 (by decide) (fun c_20 => ?_) (fun c_20 => ?_)
    rotate_left
    · exact absurd c_20 (fun h => h (ez_19.trans (lgc (hout c_18))))
    refine lv_goto (tgt := 1386) hx hb dL_law_550 (by decide) ?_
    exact W.widen (by omega) (by omega) (hk L2 f2 fo2 (va_up (va_up i 0 x0_10) 2 x2_11) (va_up (va_up (va_up a 14 y14_12) 15 y15_13) 16 y16_14) _ _ _ (hI2.mo (by omega)) (by rw [← sc_at ez_2 ez_1 hii (by decide : (1 : Int32) = nI 1) (show 6 * t + 1 < 4000 by omega), ← sc_at ez_4 ez_3 hii (by decide : (2 : Int32) = nI 2) (show 6 * t + 2 < 4000 by omega)]; exact ⟨hX1, hX2⟩) hP hD hS (lv_sub hl [2, 3, 4, 5, 6] rfl))

set_option maxHeartbeats 4000000 in
set_option maxRecDepth 100000 in
theorem lo_cloth {Z : State → Prop} {p : Program} {l : Launch} {e : Env} {s : State} {m : MethodId} {below : List Frame} {meth : Method} {c : Code} {b Ln : Nat} {xs : Nat → Int32} (hlt : l.stackTraces = false) (C0 : lw_At p s m meth c b Ln xs) (hLn : Ln ≤ 3072) {dC : Nat → ClassId} {dI : Nat → Nat → Nat} {sa : Nat → Nat} (hev : ev sa (fun q : Nat => s.heap.size ≤ q) s s.heap) {x0 rdr tok tp ka sta vaa wk vs cl ru pl tvr tc rc m0 ou : Nat} {va tv : Nat → Nat} {co : ClassId} {g gm bm : Nat → Nat} (hK : va_K (dC, dI) vwCl (tyG g ++ [(co, .long)] ++ tyM gm) s) {L : List Nat} {f : Nat → va_E} {fo : Nat → Int64} {i : Nat → Int32} {a : Nat → Nat → Int32} {H : Heap} {locs : List Loc} {ls : Array Slot} {cells slots t : Nat} {ii : Int32} (hI : LI g ((x0, rdr, tok, tp, ka, sta, vaa), (wk, vs, cl, ru, va), (pl, tvr, tc, tv), rc) ((10000 * t : Nat) : Int) L f i a) (hP : va_P (dC, dI) vwCl ((va_pl L f ++ [(ou, .inl (co, 1, .inr (.inl fo)))]) ++ mw gm m0 bm i a) H) (hD : va_D (fun q : Nat => s.heap.size ≤ q) ((va_pl L f ++ [(ou, .inl (co, 1, .inr (.inl fo)))]) ++ mw gm m0 bm i a)) (hS : va_S (fun q : Nat => s.heap.size ≤ q) s.heap H locs) (hl : lv_has ls 7 [(4, .int ii), (3, .ref ou), (2, .ref m0), (1, .ref x0), (0, .ref b)]) (hii : ii = nI (6 * t)) (ht : 6 * t + 6 ≤ Ln) (hc : cells + 2 ≤ 601024) (hs : slots + 12 ≤ 7293034) (hk : ∀ (L2 : List Nat) (f2 : Nat → va_E) (fo2 : Nat → Int64) (i2 : Nat → Int32) (a2 : Nat → Nat → Int32) (H : Heap) (locs : List Loc) (ls : Array Slot), LI g ((x0, rdr, tok, tp, ka, sta, vaa), (wk, vs, cl, ru, va), (pl, tvr, tc, tv), rc) ((10000 * (t + 1) : Nat) : Int) L2 f2 i2 a2 → ((∀ j : Nat, j ≠ 0 → i2 j = (clS (xs (6 * t + 1)) (i, a)).2.2.1 j) ∧ a2 = (clS (xs (6 * t + 1)) (i, a)).2.2.2) → va_P (dC, dI) vwCl ((va_pl L2 f2 ++ [(ou, .inl (co, 1, .inr (.inl fo2)))]) ++ mw gm m0 bm i2 a2) H → va_D (fun q : Nat => s.heap.size ≤ q) ((va_pl L2 f2 ++ [(ou, .inl (co, 1, .inr (.inl fo2)))]) ++ mw gm m0 bm i2 a2) → va_S (fun q : Nat => s.heap.size ≤ q) s.heap H locs → lv_has ls 7 [(4, .int ii), (3, .ref ou), (2, .ref m0), (1, .ref x0), (0, .ref b)] → W p l e room_1 s m #[Value.ref b] below meth c H locs (cells + 2) (slots + 12) Z (F0 m 1386 ls [])) : W p l e room_1 s m #[Value.ref b] below meth c H locs cells slots Z (F0 m 380 ls []) := by
  obtain ⟨hx, hb, hr, hml, hown, hts, hX, hbl, hlocks, hgv⟩ := id C0
  have hown : s.vm.findClass RL = some m.cls := hown
  have hA : ∀ q : Nat, s.heap.size ≤ q → (fun q : Nat => s.heap.size ≤ q) q := fun _ h => h
  have hbA : ¬ (fun q : Nat => s.heap.size ≤ q) b := Nat.not_le.mpr hbl
  obtain ⟨hT0, ⟨⟨hRF, tt, hCN, hag⟩, ⟨hSR, h7, hPL⟩, hTE⟩, hGI, ht2, hBI, hkp⟩ := id hI
  have hB9 : ((10000 * t : Nat) : Int) ≤ 9000000 := by omega
  refine lv_aload_n hx hb dL_law_380 rfl (lv_at hl 3 rfl) ?_
  refine lv_aload_n hx hb dL_law_381 rfl (lv_at hl 4 rfl) ?_
  refine lv_iload hx hb dL_law_382 (lv_at hl 0 rfl) ?_
  refine lv_iconst (v := 1) hx hb dL_law_384 (by decide) ?_
  refine lv_iadd hx hb dL_law_385 ?_
  refine lv_topi (fun z_1 ez_1 => ?_)
  refine va_sld hx hb hX hbl hbA hS (sc_in ez_1 hii (by decide : (1 : Int32) = nI 1) (by decide) ht hLn) dL_law_386 ?_
  refine lv_topi (fun z_2 ez_2 => ?_)
  rw [List.append_assoc] at hP hD
  refine NU_V ⟨hx, hb, hml, hown, hts⟩ (t_X9_clothT l dC dI sa hlt g _ _ va (i, a) x0 z_2 wk vs cl ru _ (hT0.sub [0, 7, 8, 9, 10] rfl) hSR.1.2.1 hSR.1.2.2.2.2.1 hSR.1.2.2.1 hSR.1.2.2.2.1 hSR ⟨hGI.1.1, hGI.1.2.1, hGI.1.2.2.1, Int.le_trans hGI.1.2.2.2 hB9⟩ hGI.2.1) (cwV 1 hts gL_law_X9_cloth rfl rfl rfl (by decide +kernel) ⟨Nat.le_of_ble_eq_true rfl, Nat.le_of_ble_eq_true rfl⟩) hP hD (hK.sub [0, 1, 2, 3, 4, 5, 6, 7, 8, 9, 10] rfl) hS hA hev hT0 0 9 rfl rfl rfl rfl hl.1 rfl (Nat.le_of_ble_eq_true rfl) dL_law_387 ⟨by show _ + 1 ≤ 601024; omega, by show _ + 8 ≤ 7293034; omega⟩ (fun r L2 f2 H locs hw hT2 hE2 hP hD hS => ?_)
  rw [← List.append_assoc] at hP hD
  have hW2 := hT2.1
  obtain ⟨⟨z_3, rfl⟩, hFr, v9, s9, hc1, hc2, hc3, hc4⟩ := hw
  have hP : va_P (dC, dI) vwCl ((va_pl L2 f2 ++ [(ou, .inl (co, 1, .inr (.inl fo)))]) ++ mw gm m0 bm i a) _ := hP
  have hD : va_D _ ((va_pl L2 f2 ++ [(ou, .inl (co, 1, .inr (.inl fo)))]) ++ mw gm m0 bm i a) := hD
  refine W.eq (g2 := F0 m 390 ls [.int z_3]) rfl ?_
  refine lv_aload_n hx hb dL_law_390 rfl (lv_at hl 2 rfl) ?_
  refine lv_aload_n hx hb dL_law_391 rfl (lv_at hl 4 rfl) ?_
  refine lv_iload hx hb dL_law_392 (lv_at hl 0 rfl) ?_
  refine lv_iconst (v := 1) hx hb dL_law_394 (by decide) ?_
  refine lv_iadd hx hb dL_law_395 ?_
  refine lv_topi (fun z_4 ez_4 => ?_)
  refine va_sld hx hb hX hbl hbA hS (sc_in ez_4 hii (by decide : (1 : Int32) = nI 1) (by decide) ht hLn) dL_law_396 ?_
  refine lv_topi (fun z_5 ez_5 => ?_)
  refine NV_V ⟨hx, hb, hml, hown, hts⟩ (m_X10_clothE l dC dI sa gm m0 bm i a z_5 _ hGI.1.2.1) (cwV 1 hts gL_law_X10_cloth rfl rfl rfl (by decide +kernel) ⟨Nat.le_of_ble_eq_true rfl, Nat.le_of_ble_eq_true rfl⟩) hP hD (hK.sub [12, 13, 14, 15, 16, 17, 18, 19, 20, 21, 22, 23, 24, 25, 26, 27, 28, 29, 30, 31, 32, 33, 34, 35, 36, 37, 38, 39, 40] rfl) hS hA hev rfl rfl rfl rfl hl.1 rfl (Nat.le_of_ble_eq_true rfl) dL_law_397 ⟨by show _ + 0 ≤ 601024; omega, by show _ + 0 ≤ 7293034; omega⟩ (fun r u H locs hw hP hD hS => ?_)
  obtain ⟨x0_6, x12_7, y13_8⟩ := u
  have hw : (∃ z : Int32, r = some (.int z)) ∧ (x0_6 = (clS z_5 (i, a)).1 ∧ ((clS z_5 (i, a)).1 = 0 → r = some (.int (clS z_5 (i, a)).2.1)) ∧ x12_7 = (clS z_5 (i, a)).2.2.1 12 ∧ y13_8 = (clS z_5 (i, a)).2.2.2 13) := hw
  obtain ⟨⟨z_9, rfl⟩, hwP⟩ := hw
  have hab0 : z_5 = z_2 := by rw [ez_5, ez_4, ez_2, ez_1]
  rw [hab0] at hwP
  have hX1 : ∀ j : Nat, j ≠ 0 → (va_up (va_up i 0 x0_6) 12 x12_7) j = (clS z_2 (i, a)).2.2.1 j := eqx_i fx_cl.1 (Eqx.up (by decide) (Eqx.up (by decide) Eqx.rf)) (by intro k hk; obtain rfl := List.mem_singleton.mp hk; exact hwP.2.2.1)
  have hX2 : (va_up a 13 y13_8) = (clS z_2 (i, a)).2.2.2 := eqx_a fx_cl.2 (Eqx.up (by decide) Eqx.rf) (by intro k hk; obtain rfl := List.mem_singleton.mp hk; exact hwP.2.2.2)
  have hcz : z_3 = z_9 := cl_eq hc1 hc2 hwP.2.1
  have hI2 := LI.clo hI hW2 hE2 hFr (by decide) ⟨v9, s9, hc1, hc2, hc3⟩ hc4 hwP
  have hP : va_P (dC, dI) vwCl ((va_pl L2 f2 ++ [(ou, .inl (co, 1, .inr (.inl fo)))]) ++ mw gm m0 bm (va_up (va_up i 0 x0_6) 12 x12_7) (va_up a 13 y13_8)) _ := hP
  have hD : va_D _ ((va_pl L2 f2 ++ [(ou, .inl (co, 1, .inr (.inl fo)))]) ++ mw gm m0 bm (va_up (va_up i 0 x0_6) 12 x12_7) (va_up a 13 y13_8)) := hD
  refine W.eq (g2 := F0 m 400 ls [.int z_9, .int z_3]) rfl ?_
  refine lv_icmp_eq (tgt := 1386) hx hb dL_law_400 (by decide) (fun c_10 => ?_) (fun c_10 => ?_)
  rotate_left
  · exact absurd c_10 (fun h => h hcz)
  exact W.widen (by omega) (by omega) (hk L2 f2 fo (va_up (va_up i 0 x0_6) 12 x12_7) (va_up a 13 y13_8) _ _ _ (hI2.mo (by omega)) (by rw [← sc_at ez_2 ez_1 hii (by decide : (1 : Int32) = nI 1) (show 6 * t + 1 < 4000 by omega)]; exact ⟨hX1, hX2⟩) hP hD hS (lv_sub hl [0, 1, 2, 3, 4] rfl))

set_option maxHeartbeats 4000000 in
set_option maxRecDepth 100000 in
theorem lo_plan {Z : State → Prop} {p : Program} {l : Launch} {e : Env} {s : State} {m : MethodId} {below : List Frame} {meth : Method} {c : Code} {b Ln : Nat} {xs : Nat → Int32} (hlt : l.stackTraces = false) (C0 : lw_At p s m meth c b Ln xs) (hLn : Ln ≤ 3072) {dC : Nat → ClassId} {dI : Nat → Nat → Nat} {sa : Nat → Nat} (hev : ev sa (fun q : Nat => s.heap.size ≤ q) s s.heap) {x0 rdr tok tp ka sta vaa wk vs cl ru pl tvr tc rc m0 ou : Nat} {va tv : Nat → Nat} {co : ClassId} {g gm bm : Nat → Nat} (hK : va_K (dC, dI) vwCl (tyG g ++ [(co, .long)] ++ tyM gm) s) {L : List Nat} {f : Nat → va_E} {fo : Nat → Int64} {i : Nat → Int32} {a : Nat → Nat → Int32} {H : Heap} {locs : List Loc} {ls : Array Slot} {cells slots t : Nat} {ii : Int32} (hI : LI g ((x0, rdr, tok, tp, ka, sta, vaa), (wk, vs, cl, ru, va), (pl, tvr, tc, tv), rc) ((10000 * t : Nat) : Int) L f i a) (hP : va_P (dC, dI) vwCl ((va_pl L f ++ [(ou, .inl (co, 1, .inr (.inl fo)))]) ++ mw gm m0 bm i a) H) (hD : va_D (fun q : Nat => s.heap.size ≤ q) ((va_pl L f ++ [(ou, .inl (co, 1, .inr (.inl fo)))]) ++ mw gm m0 bm i a)) (hS : va_S (fun q : Nat => s.heap.size ≤ q) s.heap H locs) (hl : lv_has ls 7 [(4, .int ii), (3, .ref ou), (2, .ref m0), (1, .ref x0), (0, .ref b)]) (hii : ii = nI (6 * t)) (ht : 6 * t + 6 ≤ Ln) (hc : cells + 2 ≤ 601024) (hs : slots + 12 ≤ 7293034) {kq : Int32} (hkq : rd f pl 5 = .int kq) (hk : ∀ (L2 : List Nat) (f2 : Nat → va_E) (fo2 : Nat → Int64) (i2 : Nat → Int32) (a2 : Nat → Nat → Int32) (H : Heap) (locs : List Loc) (ls : Array Slot), LI g ((x0, rdr, tok, tp, ka, sta, vaa), (wk, vs, cl, ru, va), (pl, tvr, tc, tv), rc) ((10000 * (t + 1) : Nat) : Int) L2 f2 i2 a2 → ((∀ j : Nat, j ≠ 0 → j ≠ 46 → i2 j = i j) ∧ (∀ j : Nat, j < 36 → a2 j = a j) ∧ ∃ o8 : OP, plS (xs (6 * t + 1)) (xs (6 * t + 2)) (xs (6 * t + 3)) (xs (6 * t + 4)) (i, a) o8 ∧ (o8.1 = 0 → (o8.2.1 = -1 → i2 46 = 0) ∧ ∃ k5 : Int32, rd f2 pl 5 = .int k5 ∧ (¬ a 16 (xs (6 * t + 1)).toNatClampNeg = -1 → k5 = kq) ∧ (a 16 (xs (6 * t + 1)).toNatClampNeg = -1 → (o8.2.1 = -1 ∧ k5 = 0) ∨ o8.2.1 = k5))) → va_P (dC, dI) vwCl ((va_pl L2 f2 ++ [(ou, .inl (co, 1, .inr (.inl fo2)))]) ++ mw gm m0 bm i2 a2) H → va_D (fun q : Nat => s.heap.size ≤ q) ((va_pl L2 f2 ++ [(ou, .inl (co, 1, .inr (.inl fo2)))]) ++ mw gm m0 bm i2 a2) → va_S (fun q : Nat => s.heap.size ≤ q) s.heap H locs → lv_has ls 7 [(4, .int ii), (3, .ref ou), (2, .ref m0), (1, .ref x0), (0, .ref b)] → W p l e room_1 s m #[Value.ref b] below meth c H locs (cells + 2) (slots + 12) Z (F0 m 1386 ls [])) : W p l e room_1 s m #[Value.ref b] below meth c H locs cells slots Z (F0 m 886 ls []) := by
  obtain ⟨hx, hb, hr, hml, hown, hts, hX, hbl, hlocks, hgv⟩ := id C0
  have hown : s.vm.findClass RL = some m.cls := hown
  have hA : ∀ q : Nat, s.heap.size ≤ q → (fun q : Nat => s.heap.size ≤ q) q := fun _ h => h
  have hbA : ¬ (fun q : Nat => s.heap.size ≤ q) b := Nat.not_le.mpr hbl
  obtain ⟨hT0, ⟨⟨hRF, tt, hCN, hag⟩, ⟨hSR, h7, hPL⟩, hTE⟩, hGI, ht2, hBI, hkp⟩ := id hI
  have hB9 : ((10000 * t : Nat) : Int) ≤ 9000000 := by omega
  refine lv_aload_n hx hb dL_law_886 rfl (lv_at hl 3 rfl) ?_
  refine lv_aload_n hx hb dL_law_887 rfl (lv_at hl 4 rfl) ?_
  refine lv_iload hx hb dL_law_888 (lv_at hl 0 rfl) ?_
  refine lv_iconst (v := 1) hx hb dL_law_890 (by decide) ?_
  refine lv_iadd hx hb dL_law_891 ?_
  refine lv_topi (fun z_1 ez_1 => ?_)
  refine va_sld hx hb hX hbl hbA hS (sc_in ez_1 hii (by decide : (1 : Int32) = nI 1) (by decide) ht hLn) dL_law_892 ?_
  refine lv_topi (fun z_2 ez_2 => ?_)
  refine lv_aload_n hx hb dL_law_893 rfl (lv_at hl 4 rfl) ?_
  refine lv_iload hx hb dL_law_894 (lv_at hl 0 rfl) ?_
  refine lv_iconst (v := 2) hx hb dL_law_896 (by decide) ?_
  refine lv_iadd hx hb dL_law_897 ?_
  refine lv_topi (fun z_3 ez_3 => ?_)
  refine va_sld hx hb hX hbl hbA hS (sc_in ez_3 hii (by decide : (2 : Int32) = nI 2) (by decide) ht hLn) dL_law_898 ?_
  refine lv_topi (fun z_4 ez_4 => ?_)
  refine lv_aload_n hx hb dL_law_899 rfl (lv_at hl 4 rfl) ?_
  refine lv_iload hx hb dL_law_900 (lv_at hl 0 rfl) ?_
  refine lv_iconst (v := 3) hx hb dL_law_902 (by decide) ?_
  refine lv_iadd hx hb dL_law_903 ?_
  refine lv_topi (fun z_5 ez_5 => ?_)
  refine va_sld hx hb hX hbl hbA hS (sc_in ez_5 hii (by decide : (3 : Int32) = nI 3) (by decide) ht hLn) dL_law_904 ?_
  refine lv_topi (fun z_6 ez_6 => ?_)
  refine lv_aload_n hx hb dL_law_905 rfl (lv_at hl 4 rfl) ?_
  refine lv_iload hx hb dL_law_906 (lv_at hl 0 rfl) ?_
  refine lv_iconst (v := 4) hx hb dL_law_908 (by decide) ?_
  refine lv_iadd hx hb dL_law_909 ?_
  refine lv_topi (fun z_7 ez_7 => ?_)
  refine va_sld hx hb hX hbl hbA hS (sc_in ez_7 hii (by decide : (4 : Int32) = nI 4) (by decide) ht hLn) dL_law_910 ?_
  refine lv_topi (fun z_8 ez_8 => ?_)
  refine lv_aload_n hx hb dL_law_911 rfl (lv_at hl 1 rfl) ?_
  obtain ⟨ks, hks, hksm⟩ := hT0.1.ks (hT0.at 11 rfl)
  have hT9 := hT0.add hksm
  refine NW_S (hh := [(0, 14, 17, 13), (0, 14, 21, 18)]) ⟨hx, hb, hml, hown, hts⟩ (wS_plan l dC dI sa g _ _ x0 ou co _ z_2 z_4 z_6 z_8 _ (hT0.sub [0] rfl) (fun sz => (t_X9_planK l dC dI sa hlt g _ _ va (i, a) tv x0 z_2 z_4 z_6 z_8 wk vs cl ru pl tvr tc ks kq sz (hT9.sub [1, 8, 9, 10, 11, 12, 13, 14, 0] rfl) hkq hSR.1.2.1 hSR.1.2.2.2.2.1 hSR.1.2.2.1 hSR.1.2.2.2.1 hPL.1.1 hPL.1.2.1 hPL.1.2.2.1 hPL.1.2.2.2 hks hSR ⟨hGI.1.1, hGI.1.2.1, hGI.1.2.2.1, Int.le_trans hGI.1.2.2.2 hB9⟩ hPL.2.1 hPL.2.2.1.1 (fun k9 _ => hPL.2.2.2 k9) (fun k9 h9 => hT0.1.tvm (hT0.at 12 rfl) h9 (hPL.2.1 k9 h9)) hPL.2.2.1.2)) (fun _ _ _ h9 => h9.1) (fun _ _ _ h9 => h9.1.imp (fun q9 => q9.1) (fun q9 => q9.1))) (vx_cwSW 6 hts gL_law_L_plan rfl rfl rfl (by decide +kernel) ⟨Nat.le_of_ble_eq_true rfl, Nat.le_of_ble_eq_true rfl⟩) hP hD (hK.sub [0, 1, 2, 3, 4, 5, 6, 7, 8, 9, 10, 11] rfl) hS hA hev rfl hl.1 rfl (Nat.le_of_ble_eq_true rfl) dL_law_912 ⟨by show _ + 2 ≤ 601024; omega, by show _ + 12 ≤ 7293034; omega⟩ (fun r u H locs hw hP hD hS => ?_)
  obtain ⟨⟨L2, f2⟩, fo2⟩ := u
  obtain ⟨hW2, hE2, hw⟩ := hw
  have hE2 : Ext L f L2 f2 := hE2
  obtain ⟨z_9, rfl⟩ := wr_z3 hw
  obtain ⟨hS2, ⟨cs2, hcs2, hF2⟩, o8, hpl8, hpr8, hpf8, hk8⟩ := st_frK hSR hE2 (by decide) (by decide) (by decide) hw
  have hI1 := hI.still hW2 hE2 hF2 hcs2 hS2
  have hP : va_P (dC, dI) vwCl ((va_pl L2 f2 ++ [(ou, .inl (co, 1, .inr (.inl fo2)))]) ++ mw gm m0 bm i a) _ := hP
  have hD : va_D _ ((va_pl L2 f2 ++ [(ou, .inl (co, 1, .inr (.inl fo2)))]) ++ mw gm m0 bm i a) := hD
  refine W.eq (g2 := F0 m 915 ls [.int z_9]) rfl ?_
  refine lv_istore (lv' := [(5, .int z_9), (4, .int ii), (3, .ref ou), (2, .ref m0), (1, .ref x0), (0, .ref b)]) hx hb dL_law_915 hl (by decide) rfl (fun ls hl => ?_)
  refine lv_aload_n hx hb dL_law_917 rfl (lv_at hl 3 rfl) ?_
  refine lv_aload_n hx hb dL_law_918 rfl (lv_at hl 5 rfl) ?_
  refine lv_iload hx hb dL_law_919 (lv_at hl 1 rfl) ?_
  refine lv_iconst (v := 1) hx hb dL_law_921 (by decide) ?_
  refine lv_iadd hx hb dL_law_922 ?_
  refine lv_topi (fun z_10 ez_10 => ?_)
  refine va_sld hx hb hX hbl hbA hS (sc_in ez_10 hii (by decide : (1 : Int32) = nI 1) (by decide) ht hLn) dL_law_923 ?_
  refine lv_topi (fun z_11 ez_11 => ?_)
  refine lv_aload_n hx hb dL_law_924 rfl (lv_at hl 5 rfl) ?_
  refine lv_iload hx hb dL_law_925 (lv_at hl 1 rfl) ?_
  refine lv_iconst (v := 2) hx hb dL_law_927 (by decide) ?_
  refine lv_iadd hx hb dL_law_928 ?_
  refine lv_topi (fun z_12 ez_12 => ?_)
  refine va_sld hx hb hX hbl hbA hS (sc_in ez_12 hii (by decide : (2 : Int32) = nI 2) (by decide) ht hLn) dL_law_929 ?_
  refine lv_topi (fun z_13 ez_13 => ?_)
  refine lv_aload_n hx hb dL_law_930 rfl (lv_at hl 5 rfl) ?_
  refine lv_iload hx hb dL_law_931 (lv_at hl 1 rfl) ?_
  refine lv_iconst (v := 3) hx hb dL_law_933 (by decide) ?_
  refine lv_iadd hx hb dL_law_934 ?_
  refine lv_topi (fun z_14 ez_14 => ?_)
  refine va_sld hx hb hX hbl hbA hS (sc_in ez_14 hii (by decide : (3 : Int32) = nI 3) (by decide) ht hLn) dL_law_935 ?_
  refine lv_topi (fun z_15 ez_15 => ?_)
  refine lv_aload_n hx hb dL_law_936 rfl (lv_at hl 5 rfl) ?_
  refine lv_iload hx hb dL_law_937 (lv_at hl 1 rfl) ?_
  refine lv_iconst (v := 4) hx hb dL_law_939 (by decide) ?_
  refine lv_iadd hx hb dL_law_940 ?_
  refine lv_topi (fun z_16 ez_16 => ?_)
  refine va_sld hx hb hX hbl hbA hS (sc_in ez_16 hii (by decide : (4 : Int32) = nI 4) (by decide) ht hLn) dL_law_941 ?_
  refine lv_topi (fun z_17 ez_17 => ?_)
  refine NV_V ⟨hx, hb, hml, hown, hts⟩ (m_X10_planK l dC dI sa gm m0 bm i a z_11 z_13 z_15 z_17 _ hGI.1.2.1 hkp) (cwV 4 hts gL_law_X10_plan rfl rfl rfl (by decide +kernel) ⟨Nat.le_of_ble_eq_true rfl, Nat.le_of_ble_eq_true rfl⟩) hP hD (hK.sub [12, 13, 14, 15, 16, 17, 18, 19, 20, 21, 22, 23, 24, 25, 26, 27, 28, 29, 30, 31, 32, 33, 34, 35, 36, 37, 38, 39, 40] rfl) hS hA hev rfl rfl rfl rfl hl.1 rfl (Nat.le_of_ble_eq_true rfl) dL_law_942 ⟨by show _ + 0 ≤ 601024; omega, by show _ + 0 ≤ 7293034; omega⟩ (fun r u H locs hw hP hD hS => ?_)
  obtain ⟨x0_18, x46_19, y4_20, y5_21, y6_22, y7_23, y14_24, y15_25, y47_26, y48_27, y49_28, y50_29⟩ := u
  have hw : (∃ z : Int32, r = some (.int z)) ∧ (∃ o9 : OP, plS z_11 z_13 z_15 z_17 (i, a) o9 ∧ x0_18 = o9.1 ∧ (o9.1 = 0 → r = some (.int o9.2.1)) ∧ y4_20 = (a 4) ∧ y5_21 = (a 5) ∧ y6_22 = (a 6) ∧ y7_23 = (a 7) ∧ y14_24 = (a 14) ∧ y15_25 = (a 15) ∧ x46_19.toInt ≤ 3 ∧ (r = some (.int (-1)) → x46_19 = 0)) := hw
  obtain ⟨⟨z_30, rfl⟩, hwP⟩ := hw
  have hab0 : z_11 = z_2 := by rw [ez_11, ez_10, ez_2, ez_1]
  have hab1 : z_13 = z_4 := by rw [ez_13, ez_12, ez_4, ez_3]
  have hab2 : z_15 = z_6 := by rw [ez_15, ez_14, ez_6, ez_5]
  have hab3 : z_17 = z_8 := by rw [ez_17, ez_16, ez_8, ez_7]
  rw [hab0, hab1, hab2, hab3] at hwP
  obtain ⟨o9, hpl9, ho0, ho1, hr4, hr5, hr6, hr7, hr14, hr15, hk46, hk9⟩ := hwP
  obtain ⟨hth, hout⟩ := pl_end hpl8 hpr8 hpf8 hpl9 ho0 ho1
  have he2 : Eqx [47, 48, 49, 50] (va_up (va_up (va_up (va_up (va_up (va_up (va_up (va_up (va_up (va_up a 4 y4_20) 5 y5_21) 6 y6_22) 7 y7_23) 14 y14_24) 15 y15_25) 47 y47_26) 48 y48_27) 49 y49_28) 50 y50_29) a := (Eqx.up (by decide) (Eqx.up (by decide) (Eqx.up (by decide) (Eqx.up (by decide) (Eqx.ups hr15 (Eqx.ups hr14 (Eqx.ups hr7 (Eqx.ups hr6 (Eqx.ups hr5 (Eqx.ups hr4 Eqx.rf))))))))))
  have hI2 := LI.cg (i2 := (va_up (va_up i 0 x0_18) 46 x46_19)) (a2 := (va_up (va_up (va_up (va_up (va_up (va_up (va_up (va_up (va_up (va_up a 4 y4_20) 5 y5_21) 6 y6_22) 7 y7_23) 14 y14_24) 15 y15_25) 47 y47_26) 48 y48_27) 49 y49_28) 50 y50_29)) hI1 (by intro j hj; simp only [List.mem_cons, List.not_mem_nil, or_false] at hj; rcases hj with rfl | rfl | rfl | rfl | rfl | rfl | rfl | rfl | rfl | rfl | rfl | rfl | rfl | rfl | rfl <;> rfl) hk46 (fun j hj => he2 j (by simp only [List.mem_cons, List.not_mem_nil, or_false]; omega))
  have hP : va_P (dC, dI) vwCl ((va_pl L2 f2 ++ [(ou, .inl (co, 1, .inr (.inl fo2)))]) ++ mw gm m0 bm (va_up (va_up i 0 x0_18) 46 x46_19) (va_up (va_up (va_up (va_up (va_up (va_up (va_up (va_up (va_up (va_up a 4 y4_20) 5 y5_21) 6 y6_22) 7 y7_23) 14 y14_24) 15 y15_25) 47 y47_26) 48 y48_27) 49 y49_28) 50 y50_29)) _ := hP
  have hD : va_D _ ((va_pl L2 f2 ++ [(ou, .inl (co, 1, .inr (.inl fo2)))]) ++ mw gm m0 bm (va_up (va_up i 0 x0_18) 46 x46_19) (va_up (va_up (va_up (va_up (va_up (va_up (va_up (va_up (va_up (va_up a 4 y4_20) 5 y5_21) 6 y6_22) 7 y7_23) 14 y14_24) 15 y15_25) 47 y47_26) 48 y48_27) 49 y49_28) 50 y50_29)) := hD
  refine W.eq (g2 := F0 m 945 ls [.int z_30]) rfl ?_
  refine lv_istore (lv' := [(6, .int z_30), (5, .int z_9), (4, .int ii), (3, .ref ou), (2, .ref m0), (1, .ref x0), (0, .ref b)]) hx hb dL_law_945 hl (by decide) rfl (fun ls hl => ?_)
  refine lv_aload_n hx hb dL_law_947 rfl (lv_at hl 4 rfl) ?_
  refine NV_V ⟨hx, hb, hml, hown, hts⟩ (m_X10_thrownX l dC dI sa gm m0 bm (va_up (va_up i 0 x0_18) 46 x46_19) (va_up (va_up (va_up (va_up (va_up (va_up (va_up (va_up (va_up (va_up a 4 y4_20) 5 y5_21) 6 y6_22) 7 y7_23) 14 y14_24) 15 y15_25) 47 y47_26) 48 y48_27) 49 y49_28) 50 y50_29)  _ ) (cwV 0 hts gL_law_X10_thrown rfl rfl rfl (by decide +kernel) ⟨Nat.le_of_ble_eq_true rfl, Nat.le_of_ble_eq_true rfl⟩) hP hD (hK.sub [12, 13, 14, 15, 16, 17, 18, 19, 20, 21, 22, 23, 24, 25, 26, 27, 28, 29, 30, 31, 32, 33, 34, 35, 36, 37, 38, 39, 40] rfl) hS hA hev rfl rfl rfl rfl hl.1 rfl (Nat.le_of_ble_eq_true rfl) dL_law_948 ⟨by show _ + 0 ≤ 601024; omega, by show _ + 0 ≤ 7293034; omega⟩ (fun r u H locs hw hP hD hS => ?_)
  have hw : (∃ z : Int32, r = some (.int z) ∧ (z = x0_18)) ∧ (True) := hw
  obtain ⟨⟨z_31, rfl, hz⟩, -⟩ := hw
  have hP : va_P (dC, dI) vwCl ((va_pl L2 f2 ++ [(ou, .inl (co, 1, .inr (.inl fo2)))]) ++ mw gm m0 bm (va_up (va_up i 0 x0_18) 46 x46_19) (va_up (va_up (va_up (va_up (va_up (va_up (va_up (va_up (va_up (va_up a 4 y4_20) 5 y5_21) 6 y6_22) 7 y7_23) 14 y14_24) 15 y15_25) 47 y47_26) 48 y48_27) 49 y49_28) 50 y50_29)) _ := hP
  have hD : va_D _ ((va_pl L2 f2 ++ [(ou, .inl (co, 1, .inr (.inl fo2)))]) ++ mw gm m0 bm (va_up (va_up i 0 x0_18) 46 x46_19) (va_up (va_up (va_up (va_up (va_up (va_up (va_up (va_up (va_up (va_up a 4 y4_20) 5 y5_21) 6 y6_22) 7 y7_23) 14 y14_24) 15 y15_25) 47 y47_26) 48 y48_27) 49 y49_28) 50 y50_29)) := hD
  refine W.eq (g2 := F0 m 951 ls [.int z_31]) rfl ?_
  refine lv_iload hx hb dL_law_951 (lv_at hl 1 rfl) ?_
  refine lv_icmp_eq (tgt := 958) hx hb dL_law_953 (by decide) (fun c_32 => ?_) (fun c_32 => ?_)
  rotate_left
  · exact absurd c_32 (fun h => h (hz.trans hth))
  refine lv_iload hx hb dL_law_958 (lv_at hl 1 rfl) ?_
  refine lv_if_ne (tgt := 975) hx hb dL_law_960 (by decide) (fun c_33 => ?_) (fun c_33 => ?_)
  · refine lv_goto (tgt := 1386) hx hb dL_law_975 (by decide) ?_
    exact W.widen (by omega) (by omega) (hk L2 f2 fo2 (va_up (va_up i 0 x0_18) 46 x46_19) (va_up (va_up (va_up (va_up (va_up (va_up (va_up (va_up (va_up (va_up a 4 y4_20) 5 y5_21) 6 y6_22) 7 y7_23) 14 y14_24) 15 y15_25) 47 y47_26) 48 y48_27) 49 y49_28) 50 y50_29) _ _ _ (hI2.mo (by omega)) (by rw [← sc_at ez_2 ez_1 hii (by decide : (1 : Int32) = nI 1) (show 6 * t + 1 < 4000 by omega), ← sc_at ez_4 ez_3 hii (by decide : (2 : Int32) = nI 2) (show 6 * t + 2 < 4000 by omega), ← sc_at ez_6 ez_5 hii (by decide : (3 : Int32) = nI 3) (show 6 * t + 3 < 4000 by omega), ← sc_at ez_8 ez_7 hii (by decide : (4 : Int32) = nI 4) (show 6 * t + 4 < 4000 by omega)]; exact pl_kp hpl8 hk8 hpl9 ho1 hk9 (fun j h1 h2 => (va_up_ne _ _ h2).trans (va_up_ne _ _ h1)) (fun j hj => he2 j (by simp only [List.mem_cons, List.not_mem_nil, or_false]; omega))) hP hD hS (lv_sub hl [2, 3, 4, 5, 6] rfl))
  · refine lv_aload_n hx hb dL_law_963 rfl (lv_at hl 3 rfl) ?_
    refine lv_iconst (v := 0) hx hb dL_law_964 (by decide) ?_
    refine N_lald hx hb hK hP 11 rfl dL_law_965 ?_
    refine lv_iload hx hb dL_law_966 (lv_at hl 0 rfl) ?_
    refine lv_i2l (v := (z_30).toInt64) hx hb dL_law_968 rfl ?_
    refine W.lcmp hx hb dL_law_969 ?_
    refine lv_topi (fun z_34 ez_34 => ?_)
    refine lv_if_eq (tgt := 975) hx hb dL_law_970 (by decide) (fun c_35 => ?_) (fun c_35 => ?_)
    rotate_left
    · exact absurd c_35 (fun h => h (ez_34.trans (lgc (hout c_33))))
    refine lv_goto (tgt := 1386) hx hb dL_law_975 (by decide) ?_
    exact W.widen (by omega) (by omega) (hk L2 f2 fo2 (va_up (va_up i 0 x0_18) 46 x46_19) (va_up (va_up (va_up (va_up (va_up (va_up (va_up (va_up (va_up (va_up a 4 y4_20) 5 y5_21) 6 y6_22) 7 y7_23) 14 y14_24) 15 y15_25) 47 y47_26) 48 y48_27) 49 y49_28) 50 y50_29) _ _ _ (hI2.mo (by omega)) (by rw [← sc_at ez_2 ez_1 hii (by decide : (1 : Int32) = nI 1) (show 6 * t + 1 < 4000 by omega), ← sc_at ez_4 ez_3 hii (by decide : (2 : Int32) = nI 2) (show 6 * t + 2 < 4000 by omega), ← sc_at ez_6 ez_5 hii (by decide : (3 : Int32) = nI 3) (show 6 * t + 3 < 4000 by omega), ← sc_at ez_8 ez_7 hii (by decide : (4 : Int32) = nI 4) (show 6 * t + 4 < 4000 by omega)]; exact pl_kp hpl8 hk8 hpl9 ho1 hk9 (fun j h1 h2 => (va_up_ne _ _ h2).trans (va_up_ne _ _ h1)) (fun j hj => he2 j (by simp only [List.mem_cons, List.not_mem_nil, or_false]; omega))) hP hD hS (lv_sub hl [2, 3, 4, 5, 6] rfl))

set_option maxHeartbeats 4000000 in
set_option maxRecDepth 100000 in
theorem lo_planned {p : Program} {l : Launch} {e : Env} {s : State} {m : MethodId} {below : List Frame} {meth : Method} {c : Code} {b Ln : Nat} {xs : Nat → Int32} (hlt : l.stackTraces = false) (C0 : lw_At p s m meth c b Ln xs) (hLn : Ln ≤ 3072) {dC : Nat → ClassId} {dI : Nat → Nat → Nat} {sa : Nat → Nat} (hev : ev sa (fun q : Nat => s.heap.size ≤ q) s s.heap) {x0 rdr tok tp ka sta vaa wk vs cl ru pl tvr tc rc m0 ou : Nat} {va tv : Nat → Nat} {co : ClassId} {g gm bm : Nat → Nat} (hK : va_K (dC, dI) vwCl (tyG g ++ [(co, .long)] ++ tyM gm) s) {L : List Nat} {f : Nat → va_E} {fo : Nat → Int64} {i : Nat → Int32} {a : Nat → Nat → Int32} {H : Heap} {locs : List Loc} {ls : Array Slot} {cells slots t : Nat} {ii : Int32} (hI : LI g ((x0, rdr, tok, tp, ka, sta, vaa), (wk, vs, cl, ru, va), (pl, tvr, tc, tv), rc) ((10000 * t : Nat) : Int) L f i a) (hP : va_P (dC, dI) vwCl ((va_pl L f ++ [(ou, .inl (co, 1, .inr (.inl fo)))]) ++ mw gm m0 bm i a) H) (hD : va_D (fun q : Nat => s.heap.size ≤ q) ((va_pl L f ++ [(ou, .inl (co, 1, .inr (.inl fo)))]) ++ mw gm m0 bm i a)) (hS : va_S (fun q : Nat => s.heap.size ≤ q) s.heap H locs) (hl : lv_has ls 7 [(4, .int ii), (3, .ref ou), (2, .ref m0), (1, .ref x0), (0, .ref b)]) (hii : ii = nI (6 * t)) (ht : 6 * t + 6 ≤ Ln) (hc : cells + 2 ≤ 601024) (hs : slots + 12 ≤ 7293034) {kq : Int32} (hkq : rd f pl 5 = .int kq) (hq1 : kq = 1) (hx1 : xs (6 * t + 1) = 0) (hx2 : xs (6 * t + 2) = 0) (h46 : i 46 = 0) : W p l e room_1 s m #[Value.ref b] below meth c H locs cells slots (lw_Z0 below #[Value.ref b] s) (F0 m 978 ls []) := by
  obtain ⟨hx, hb, hr, hml, hown, hts, hX, hbl, hlocks, hgv⟩ := id C0
  have hown : s.vm.findClass RL = some m.cls := hown
  have hA : ∀ q : Nat, s.heap.size ≤ q → (fun q : Nat => s.heap.size ≤ q) q := fun _ h => h
  have hbA : ¬ (fun q : Nat => s.heap.size ≤ q) b := Nat.not_le.mpr hbl
  obtain ⟨hT0, ⟨⟨hRF, tt, hCN, hag⟩, ⟨hSR, h7, hPL⟩, hTE⟩, hGI, ht2, hBI, hkp⟩ := id hI
  have hB9 : ((10000 * t : Nat) : Int) ≤ 9000000 := by omega
  refine lv_aload_n hx hb dL_law_978 rfl (lv_at hl 3 rfl) ?_
  refine lv_aload_n hx hb dL_law_979 rfl (lv_at hl 4 rfl) ?_
  refine lv_iload hx hb dL_law_980 (lv_at hl 0 rfl) ?_
  refine lv_iconst (v := 1) hx hb dL_law_982 (by decide) ?_
  refine lv_iadd hx hb dL_law_983 ?_
  refine lv_topi (fun z_1 ez_1 => ?_)
  refine va_sld hx hb hX hbl hbA hS (sc_in ez_1 hii (by decide : (1 : Int32) = nI 1) (by decide) ht hLn) dL_law_984 ?_
  refine lv_topi (fun z_2 ez_2 => ?_)
  refine lv_aload_n hx hb dL_law_985 rfl (lv_at hl 4 rfl) ?_
  refine lv_iload hx hb dL_law_986 (lv_at hl 0 rfl) ?_
  refine lv_iconst (v := 2) hx hb dL_law_988 (by decide) ?_
  refine lv_iadd hx hb dL_law_989 ?_
  refine lv_topi (fun z_3 ez_3 => ?_)
  refine va_sld hx hb hX hbl hbA hS (sc_in ez_3 hii (by decide : (2 : Int32) = nI 2) (by decide) ht hLn) dL_law_990 ?_
  refine lv_topi (fun z_4 ez_4 => ?_)
  refine lv_aload_n hx hb dL_law_991 rfl (lv_at hl 1 rfl) ?_
  refine NW_S (hh := [(0, 10, 13, 13)]) ⟨hx, hb, hml, hown, hts⟩ (wS_planned l dC dI sa g _ _ x0 ou co _ z_2 z_4 _ (hT0.sub [0] rfl) (fun sz => (t_X9_plannedK l dC dI sa hlt g _ _ x0 z_2 z_4 pl kq sz (hT0.sub [0, 11] rfl) hkq hPL.1.1)) (fun _ _ _ h9 => h9.1) (fun _ _ _ h9 => h9.1.1)) (vx_cwSW 4 hts gL_law_L_planned rfl rfl rfl (by decide +kernel) ⟨Nat.le_of_ble_eq_true rfl, Nat.le_of_ble_eq_true rfl⟩) hP hD (hK.sub [0, 1, 2, 3, 4, 5, 6, 7, 8, 9, 10, 11] rfl) hS hA hev rfl hl.1 rfl (Nat.le_of_ble_eq_true rfl) dL_law_992 ⟨by show _ + 1 ≤ 601024; omega, by show _ + 6 ≤ 7293034; omega⟩ (fun r u H locs hw hP hD hS => ?_)
  obtain ⟨⟨L2, f2⟩, fo2⟩ := u
  obtain ⟨hW2, hE2, hw⟩ := hw
  have hE2 : Ext L f L2 f2 := hE2
  obtain ⟨z_5, rfl⟩ := wr_z hw
  have hz0 := st_z0 hw ⟨((sc_at ez_2 ez_1 hii (by decide : (1 : Int32) = nI 1) (by omega)).trans hx1), ((sc_at ez_4 ez_3 hii (by decide : (2 : Int32) = nI 2) (by omega)).trans hx2), hq1⟩
  obtain ⟨hS2, hF2⟩ := st_f0 hSR hE2 hw
  have hI1 := hI.still hW2 hE2 hF2 (by decide) hS2
  have hP : va_P (dC, dI) vwCl ((va_pl L2 f2 ++ [(ou, .inl (co, 1, .inr (.inl fo2)))]) ++ mw gm m0 bm i a) _ := hP
  have hD : va_D _ ((va_pl L2 f2 ++ [(ou, .inl (co, 1, .inr (.inl fo2)))]) ++ mw gm m0 bm i a) := hD
  refine W.eq (g2 := F0 m 995 ls [.int z_5]) rfl ?_
  refine lv_istore (lv' := [(5, .int z_5), (4, .int ii), (3, .ref ou), (2, .ref m0), (1, .ref x0), (0, .ref b)]) hx hb dL_law_995 hl (by decide) rfl (fun ls hl => ?_)
  refine lv_aload_n hx hb dL_law_997 rfl (lv_at hl 3 rfl) ?_
  refine lv_aload_n hx hb dL_law_998 rfl (lv_at hl 5 rfl) ?_
  refine lv_iload hx hb dL_law_999 (lv_at hl 1 rfl) ?_
  refine lv_iconst (v := 1) hx hb dL_law_1001 (by decide) ?_
  refine lv_iadd hx hb dL_law_1002 ?_
  refine lv_topi (fun z_6 ez_6 => ?_)
  refine va_sld hx hb hX hbl hbA hS (sc_in ez_6 hii (by decide : (1 : Int32) = nI 1) (by decide) ht hLn) dL_law_1003 ?_
  refine lv_topi (fun z_7 ez_7 => ?_)
  refine lv_aload_n hx hb dL_law_1004 rfl (lv_at hl 5 rfl) ?_
  refine lv_iload hx hb dL_law_1005 (lv_at hl 1 rfl) ?_
  refine lv_iconst (v := 2) hx hb dL_law_1007 (by decide) ?_
  refine lv_iadd hx hb dL_law_1008 ?_
  refine lv_topi (fun z_8 ez_8 => ?_)
  refine va_sld hx hb hX hbl hbA hS (sc_in ez_8 hii (by decide : (2 : Int32) = nI 2) (by decide) ht hLn) dL_law_1009 ?_
  refine lv_topi (fun z_9 ez_9 => ?_)
  refine NV_V ⟨hx, hb, hml, hown, hts⟩ (m_X10_plannedK l dC dI sa gm m0 bm i a z_7 z_9 _ hkp) (cwV 2 hts gL_law_X10_planned rfl rfl rfl (by decide +kernel) ⟨Nat.le_of_ble_eq_true rfl, Nat.le_of_ble_eq_true rfl⟩) hP hD (hK.sub [12, 13, 14, 15, 16, 17, 18, 19, 20, 21, 22, 23, 24, 25, 26, 27, 28, 29, 30, 31, 32, 33, 34, 35, 36, 37, 38, 39, 40] rfl) hS hA hev rfl rfl rfl rfl hl.1 rfl (Nat.le_of_ble_eq_true rfl) dL_law_1010 ⟨by show _ + 0 ≤ 601024; omega, by show _ + 0 ≤ 7293034; omega⟩ (fun r u H locs hw hP hD hS => ?_)
  obtain ⟨x0_10, rfl⟩ : ∃ z, z = u := ⟨_, rfl⟩
  have hw : (∃ z : Int32, r = some (.int z)) ∧ ((i 46) = 0 → x0_10 = 1) := hw
  obtain ⟨⟨z_11, rfl⟩, hwP⟩ := hw
  have hab0 : z_7 = z_2 := by rw [ez_7, ez_6, ez_2, ez_1]
  have hab1 : z_9 = z_4 := by rw [ez_9, ez_8, ez_4, ez_3]
  have hI2 := LI.cg (i2 := (va_up i 0 x0_10)) (a2 := a) hI1 (by intro j hj; simp only [List.mem_cons, List.not_mem_nil, or_false] at hj; rcases hj with rfl | rfl | rfl | rfl | rfl | rfl | rfl | rfl | rfl | rfl | rfl | rfl | rfl | rfl | rfl <;> rfl) hkp (fun j hj => rfl)
  have hP : va_P (dC, dI) vwCl ((va_pl L2 f2 ++ [(ou, .inl (co, 1, .inr (.inl fo2)))]) ++ mw gm m0 bm (va_up i 0 x0_10) a) _ := hP
  have hD : va_D _ ((va_pl L2 f2 ++ [(ou, .inl (co, 1, .inr (.inl fo2)))]) ++ mw gm m0 bm (va_up i 0 x0_10) a) := hD
  refine W.eq (g2 := F0 m 1013 ls [.int z_11]) rfl ?_
  refine lv_istore (lv' := [(6, .int z_11), (5, .int z_5), (4, .int ii), (3, .ref ou), (2, .ref m0), (1, .ref x0), (0, .ref b)]) hx hb dL_law_1013 hl (by decide) rfl (fun ls hl => ?_)
  refine lv_aload_n hx hb dL_law_1015 rfl (lv_at hl 4 rfl) ?_
  refine NV_V ⟨hx, hb, hml, hown, hts⟩ (m_X10_thrownX l dC dI sa gm m0 bm (va_up i 0 x0_10) a  _ ) (cwV 0 hts gL_law_X10_thrown rfl rfl rfl (by decide +kernel) ⟨Nat.le_of_ble_eq_true rfl, Nat.le_of_ble_eq_true rfl⟩) hP hD (hK.sub [12, 13, 14, 15, 16, 17, 18, 19, 20, 21, 22, 23, 24, 25, 26, 27, 28, 29, 30, 31, 32, 33, 34, 35, 36, 37, 38, 39, 40] rfl) hS hA hev rfl rfl rfl rfl hl.1 rfl (Nat.le_of_ble_eq_true rfl) dL_law_1016 ⟨by show _ + 0 ≤ 601024; omega, by show _ + 0 ≤ 7293034; omega⟩ (fun r u H locs hw hP hD hS => ?_)
  have hw : (∃ z : Int32, r = some (.int z) ∧ (z = x0_10)) ∧ (True) := hw
  obtain ⟨⟨z_12, rfl, hz⟩, -⟩ := hw
  have hP : va_P (dC, dI) vwCl ((va_pl L2 f2 ++ [(ou, .inl (co, 1, .inr (.inl fo2)))]) ++ mw gm m0 bm (va_up i 0 x0_10) a) _ := hP
  have hD : va_D _ ((va_pl L2 f2 ++ [(ou, .inl (co, 1, .inr (.inl fo2)))]) ++ mw gm m0 bm (va_up i 0 x0_10) a) := hD
  refine W.eq (g2 := F0 m 1019 ls [.int z_12]) rfl ?_
  refine lv_iload hx hb dL_law_1019 (lv_at hl 1 rfl) ?_
  refine lv_icmp_eq (tgt := 1026) hx hb dL_law_1021 (by decide) (fun c_13 => ?_) (fun c_13 => ?_)
  · exact absurd c_13 (fun h => nz_th h hz (hwP h46) hz0)
  refine lv_iconst (v := 0) hx hb dL_law_1024 (by decide) ?_
  refine va_forget (fun q hq => hS.2.2 q hq) ?_
  refine W.widen (k := 601024) (n := 7293034) (by omega) (by omega) ?_
  exact lw_ret0 hx hb hr hlocks dL_law_1025

set_option maxHeartbeats 4000000 in
set_option maxRecDepth 100000 in
theorem tn_charge {Z : State → Prop} {p : Program} {l : Launch} {e : Env} {s : State} {m : MethodId} {below : List Frame} {meth : Method} {c : Code} {b Ln : Nat} {xs : Nat → Int32} (hlt : l.stackTraces = false) (C0 : lw_At p s m meth c b Ln xs) (hLn : Ln ≤ 3072) {dC : Nat → ClassId} {dI : Nat → Nat → Nat} {sa : Nat → Nat} (hev : ev sa (fun q : Nat => s.heap.size ≤ q) s s.heap) {x0 rdr tok tp ka sta vaa wk vs cl ru pl tvr tc rc m0 ou : Nat} {va tv : Nat → Nat} {co : ClassId} {g gm bm : Nat → Nat} (hK : va_K (dC, dI) vwCl (tyG g ++ [(co, .long)] ++ tyM gm) s) {L : List Nat} {f : Nat → va_E} {fo : Nat → Int64} {i : Nat → Int32} {a : Nat → Nat → Int32} {H : Heap} {locs : List Loc} {ls : Array Slot} {cells slots t : Nat} {ii : Int32} (hI : LI g ((x0, rdr, tok, tp, ka, sta, vaa), (wk, vs, cl, ru, va), (pl, tvr, tc, tv), rc) ((10000 * t : Nat) : Int) L f i a) (hP : va_P (dC, dI) vwCl ((va_pl L f ++ [(ou, .inl (co, 1, .inr (.inl fo)))]) ++ mw gm m0 bm i a) H) (hD : va_D (fun q : Nat => s.heap.size ≤ q) ((va_pl L f ++ [(ou, .inl (co, 1, .inr (.inl fo)))]) ++ mw gm m0 bm i a)) (hS : va_S (fun q : Nat => s.heap.size ≤ q) s.heap H locs) (hl : lv_has ls 7 [(4, .int ii), (3, .ref ou), (2, .ref m0), (1, .ref x0), (0, .ref b)]) (hii : ii = nI (6 * t)) (ht : 6 * t + 6 ≤ Ln) (hc : cells + 2 ≤ 601024) (hs : slots + 12 ≤ 7293034) (hop : xs (6 * t) = 0) (hk : W p l e room_1 s m #[Value.ref b] below meth c H locs cells slots Z (F0 m 132 ls [])) : W p l e room_1 s m #[Value.ref b] below meth c H locs cells slots Z (F0 m 23 ls []) := by
  obtain ⟨hx, hb, hr, hml, hown, hts, hX, hbl, hlocks, hgv⟩ := id C0
  have hown : s.vm.findClass RL = some m.cls := hown
  have hA : ∀ q : Nat, s.heap.size ≤ q → (fun q : Nat => s.heap.size ≤ q) q := fun _ h => h
  have hbA : ¬ (fun q : Nat => s.heap.size ≤ q) b := Nat.not_le.mpr hbl
  refine lv_iload hx hb dL_law_23 (lv_at hl 0 rfl) ?_
  refine lv_aload_n hx hb dL_law_25 rfl (lv_at hl 4 rfl) ?_
  refine va_slen hx hb hX hbl hbA hS dL_law_26 ?_
  refine lv_topi (fun z_1 ez_1 => ?_)
  refine lv_bipush (v := 6) hx hb dL_law_27 (by decide) ?_
  refine lv_isub hx hb dL_law_29 ?_
  refine lv_topi (fun z_2 ez_2 => ?_)
  refine lv_icmp_gt (tgt := 1392) hx hb dL_law_30 (by decide) (fun c_3 => absurd c_3 (sc_nl hii ez_1 ez_2 hLn ht)) (fun c_3 => ?_)
  refine lv_aload_n hx hb dL_law_33 rfl (lv_at hl 4 rfl) ?_
  refine lv_iload hx hb dL_law_34 (lv_at hl 0 rfl) ?_
  refine va_sld hx hb hX hbl hbA hS (sc_in0 hii ht hLn) dL_law_36 ?_
  refine lv_topi (fun z_4 ez_4 => ?_)
  refine lv_bipush (v := 31) hx hb dL_law_37 (by decide) ?_
  refine lv_iand hx hb dL_law_39 ?_
  refine lv_topi (fun z_5 ez_5 => ?_)
  have c_6 : z_5 = 0 := by rw [ez_5, ez_4, sc_0 (xs := xs) hii (by omega), hop]; decide
  refine lv_tableIn (tgt := 132) hx hb dL_law_40 (by rw [c_6]; decide) (by rw [c_6]; decide) (by rw [c_6]; rfl) (by decide) ?_
  exact hk

set_option maxHeartbeats 4000000 in
set_option maxRecDepth 100000 in
theorem sp_charge {Z : State → Prop} {p : Program} {l : Launch} {e : Env} {s : State} {m : MethodId} {below : List Frame} {meth : Method} {c : Code} {b Ln : Nat} {xs : Nat → Int32} (hlt : l.stackTraces = false) (C0 : lw_At p s m meth c b Ln xs) (hLn : Ln ≤ 3072) {dC : Nat → ClassId} {dI : Nat → Nat → Nat} {sa : Nat → Nat} (hev : ev sa (fun q : Nat => s.heap.size ≤ q) s s.heap) {x0 rdr tok tp ka sta vaa wk vs cl ru pl tvr tc rc m0 ou : Nat} {va tv : Nat → Nat} {co : ClassId} {g gm bm : Nat → Nat} (hK : va_K (dC, dI) vwCl (tyG g ++ [(co, .long)] ++ tyM gm) s) {L : List Nat} {f : Nat → va_E} {fo : Nat → Int64} {i : Nat → Int32} {a : Nat → Nat → Int32} {H : Heap} {locs : List Loc} {ls : Array Slot} {cells slots t : Nat}  (hI : LI g ((x0, rdr, tok, tp, ka, sta, vaa), (wk, vs, cl, ru, va), (pl, tvr, tc, tv), rc) ((10000 * t : Nat) : Int) L f i a) (hP : va_P (dC, dI) vwCl ((va_pl L f ++ [(ou, .inl (co, 1, .inr (.inl fo)))]) ++ mw gm m0 bm i a) H) (hD : va_D (fun q : Nat => s.heap.size ≤ q) ((va_pl L f ++ [(ou, .inl (co, 1, .inr (.inl fo)))]) ++ mw gm m0 bm i a)) (hS : va_S (fun q : Nat => s.heap.size ≤ q) s.heap H locs) (hl : lv_has ls 7 [(4, .int (nI (6 * t))), (3, .ref ou), (2, .ref m0), (1, .ref x0), (0, .ref b)]) (ht : 6 * t + 6 ≤ Ln) (hc : cells + 2 ≤ 601024) (hs : slots + 12 ≤ 7293034) (hop : xs (6 * t) = 0) (hk : ∀ (L2 : List Nat) (f2 : Nat → va_E) (fo2 : Nat → Int64) (i2 : Nat → Int32) (a2 : Nat → Nat → Int32) (H : Heap) (locs : List Loc) (ls : Array Slot), LI g ((x0, rdr, tok, tp, ka, sta, vaa), (wk, vs, cl, ru, va), (pl, tvr, tc, tv), rc) ((10000 * (t + 1) : Nat) : Int) L2 f2 i2 a2 → ((∀ j : Nat, j ≠ 0 → i2 j = (chG (xs (6 * t + 1)) (xs (6 * t + 2)) (i, a)).2.2.1 j) ∧ a2 = (chG (xs (6 * t + 1)) (xs (6 * t + 2)) (i, a)).2.2.2) → va_P (dC, dI) vwCl ((va_pl L2 f2 ++ [(ou, .inl (co, 1, .inr (.inl fo2)))]) ++ mw gm m0 bm i2 a2) H → va_D (fun q : Nat => s.heap.size ≤ q) ((va_pl L2 f2 ++ [(ou, .inl (co, 1, .inr (.inl fo2)))]) ++ mw gm m0 bm i2 a2) → va_S (fun q : Nat => s.heap.size ≤ q) s.heap H locs → lv_has ls 7 [(4, .int (nI (6 * (t + 1)))), (3, .ref ou), (2, .ref m0), (1, .ref x0), (0, .ref b)] → W p l e room_1 s m #[Value.ref b] below meth c H locs (cells + 2) (slots + 12) Z (F0 m 23 ls [])) : W p l e room_1 s m #[Value.ref b] below meth c H locs cells slots Z (F0 m 23 ls []) := by
  obtain ⟨hx, hb, hr, hml, hown, hts, hX, hbl, hlocks, hgv⟩ := id C0
  have hown : s.vm.findClass RL = some m.cls := hown
  have hA : ∀ q : Nat, s.heap.size ≤ q → (fun q : Nat => s.heap.size ≤ q) q := fun _ h => h
  have hbA : ¬ (fun q : Nat => s.heap.size ≤ q) b := Nat.not_le.mpr hbl
  refine tn_charge hlt C0 hLn hev hK hI hP hD hS hl rfl ht hc hs hop (lo_charge hlt C0 hLn hev hK hI hP hD hS hl rfl ht hc hs ?_)
  intro L2 f2 fo2 i2 a2 H locs ls hI hR hP hD hS hl
  refine lv_iinc (v := nI (6 * (t + 1))) (lv' := [(4, .int (nI (6 * (t + 1)))), (3, .ref ou), (2, .ref m0), (1, .ref x0), (0, .ref b)]) hx hb dL_law_1386 hl (k := 0) rfl (by show nI (6 * t) + nI 6 = nI (6 * (t + 1)); rw [nI_add]; exact congrArg nI (by omega)) (by decide) rfl (fun ls hl => ?_)
  refine lv_goto (tgt := 23) hx hb dL_law_1389 (by decide) ?_
  exact hk L2 f2 fo2 i2 a2 H locs ls hI hR hP hD hS hl

set_option maxHeartbeats 4000000 in
set_option maxRecDepth 100000 in
theorem tn_feed {Z : State → Prop} {p : Program} {l : Launch} {e : Env} {s : State} {m : MethodId} {below : List Frame} {meth : Method} {c : Code} {b Ln : Nat} {xs : Nat → Int32} (hlt : l.stackTraces = false) (C0 : lw_At p s m meth c b Ln xs) (hLn : Ln ≤ 3072) {dC : Nat → ClassId} {dI : Nat → Nat → Nat} {sa : Nat → Nat} (hev : ev sa (fun q : Nat => s.heap.size ≤ q) s s.heap) {x0 rdr tok tp ka sta vaa wk vs cl ru pl tvr tc rc m0 ou : Nat} {va tv : Nat → Nat} {co : ClassId} {g gm bm : Nat → Nat} (hK : va_K (dC, dI) vwCl (tyG g ++ [(co, .long)] ++ tyM gm) s) {L : List Nat} {f : Nat → va_E} {fo : Nat → Int64} {i : Nat → Int32} {a : Nat → Nat → Int32} {H : Heap} {locs : List Loc} {ls : Array Slot} {cells slots t : Nat} {ii : Int32} (hI : LI g ((x0, rdr, tok, tp, ka, sta, vaa), (wk, vs, cl, ru, va), (pl, tvr, tc, tv), rc) ((10000 * t : Nat) : Int) L f i a) (hP : va_P (dC, dI) vwCl ((va_pl L f ++ [(ou, .inl (co, 1, .inr (.inl fo)))]) ++ mw gm m0 bm i a) H) (hD : va_D (fun q : Nat => s.heap.size ≤ q) ((va_pl L f ++ [(ou, .inl (co, 1, .inr (.inl fo)))]) ++ mw gm m0 bm i a)) (hS : va_S (fun q : Nat => s.heap.size ≤ q) s.heap H locs) (hl : lv_has ls 7 [(4, .int ii), (3, .ref ou), (2, .ref m0), (1, .ref x0), (0, .ref b)]) (hii : ii = nI (6 * t)) (ht : 6 * t + 6 ≤ Ln) (hc : cells + 2 ≤ 601024) (hs : slots + 12 ≤ 7293034) (hop : xs (6 * t) = 1) (hk : W p l e room_1 s m #[Value.ref b] below meth c H locs cells slots Z (F0 m 200 ls [])) : W p l e room_1 s m #[Value.ref b] below meth c H locs cells slots Z (F0 m 23 ls []) := by
  obtain ⟨hx, hb, hr, hml, hown, hts, hX, hbl, hlocks, hgv⟩ := id C0
  have hown : s.vm.findClass RL = some m.cls := hown
  have hA : ∀ q : Nat, s.heap.size ≤ q → (fun q : Nat => s.heap.size ≤ q) q := fun _ h => h
  have hbA : ¬ (fun q : Nat => s.heap.size ≤ q) b := Nat.not_le.mpr hbl
  refine lv_iload hx hb dL_law_23 (lv_at hl 0 rfl) ?_
  refine lv_aload_n hx hb dL_law_25 rfl (lv_at hl 4 rfl) ?_
  refine va_slen hx hb hX hbl hbA hS dL_law_26 ?_
  refine lv_topi (fun z_1 ez_1 => ?_)
  refine lv_bipush (v := 6) hx hb dL_law_27 (by decide) ?_
  refine lv_isub hx hb dL_law_29 ?_
  refine lv_topi (fun z_2 ez_2 => ?_)
  refine lv_icmp_gt (tgt := 1392) hx hb dL_law_30 (by decide) (fun c_3 => absurd c_3 (sc_nl hii ez_1 ez_2 hLn ht)) (fun c_3 => ?_)
  refine lv_aload_n hx hb dL_law_33 rfl (lv_at hl 4 rfl) ?_
  refine lv_iload hx hb dL_law_34 (lv_at hl 0 rfl) ?_
  refine va_sld hx hb hX hbl hbA hS (sc_in0 hii ht hLn) dL_law_36 ?_
  refine lv_topi (fun z_4 ez_4 => ?_)
  refine lv_bipush (v := 31) hx hb dL_law_37 (by decide) ?_
  refine lv_iand hx hb dL_law_39 ?_
  refine lv_topi (fun z_5 ez_5 => ?_)
  have c_6 : z_5 = 1 := by rw [ez_5, ez_4, sc_0 (xs := xs) hii (by omega), hop]; decide
  refine lv_tableIn (tgt := 200) hx hb dL_law_40 (by rw [c_6]; decide) (by rw [c_6]; decide) (by rw [c_6]; rfl) (by decide) ?_
  exact hk

set_option maxHeartbeats 4000000 in
set_option maxRecDepth 100000 in
theorem sp_feed {Z : State → Prop} {p : Program} {l : Launch} {e : Env} {s : State} {m : MethodId} {below : List Frame} {meth : Method} {c : Code} {b Ln : Nat} {xs : Nat → Int32} (hlt : l.stackTraces = false) (C0 : lw_At p s m meth c b Ln xs) (hLn : Ln ≤ 3072) {dC : Nat → ClassId} {dI : Nat → Nat → Nat} {sa : Nat → Nat} (hev : ev sa (fun q : Nat => s.heap.size ≤ q) s s.heap) {x0 rdr tok tp ka sta vaa wk vs cl ru pl tvr tc rc m0 ou : Nat} {va tv : Nat → Nat} {co : ClassId} {g gm bm : Nat → Nat} (hK : va_K (dC, dI) vwCl (tyG g ++ [(co, .long)] ++ tyM gm) s) {L : List Nat} {f : Nat → va_E} {fo : Nat → Int64} {i : Nat → Int32} {a : Nat → Nat → Int32} {H : Heap} {locs : List Loc} {ls : Array Slot} {cells slots t : Nat}  (hI : LI g ((x0, rdr, tok, tp, ka, sta, vaa), (wk, vs, cl, ru, va), (pl, tvr, tc, tv), rc) ((10000 * t : Nat) : Int) L f i a) (hP : va_P (dC, dI) vwCl ((va_pl L f ++ [(ou, .inl (co, 1, .inr (.inl fo)))]) ++ mw gm m0 bm i a) H) (hD : va_D (fun q : Nat => s.heap.size ≤ q) ((va_pl L f ++ [(ou, .inl (co, 1, .inr (.inl fo)))]) ++ mw gm m0 bm i a)) (hS : va_S (fun q : Nat => s.heap.size ≤ q) s.heap H locs) (hl : lv_has ls 7 [(4, .int (nI (6 * t))), (3, .ref ou), (2, .ref m0), (1, .ref x0), (0, .ref b)]) (ht : 6 * t + 6 ≤ Ln) (hc : cells + 2 ≤ 601024) (hs : slots + 12 ≤ 7293034) (hop : xs (6 * t) = 1) (hk : ∀ (L2 : List Nat) (f2 : Nat → va_E) (fo2 : Nat → Int64) (i2 : Nat → Int32) (a2 : Nat → Nat → Int32) (H : Heap) (locs : List Loc) (ls : Array Slot), LI g ((x0, rdr, tok, tp, ka, sta, vaa), (wk, vs, cl, ru, va), (pl, tvr, tc, tv), rc) ((10000 * (t + 1) : Nat) : Int) L2 f2 i2 a2 → ((∀ j : Nat, j ≠ 0 → i2 j = (fdS (xs (6 * t + 1)) (xs (6 * t + 2)) (i, a)).2.2.1 j) ∧ a2 = (fdS (xs (6 * t + 1)) (xs (6 * t + 2)) (i, a)).2.2.2) → va_P (dC, dI) vwCl ((va_pl L2 f2 ++ [(ou, .inl (co, 1, .inr (.inl fo2)))]) ++ mw gm m0 bm i2 a2) H → va_D (fun q : Nat => s.heap.size ≤ q) ((va_pl L2 f2 ++ [(ou, .inl (co, 1, .inr (.inl fo2)))]) ++ mw gm m0 bm i2 a2) → va_S (fun q : Nat => s.heap.size ≤ q) s.heap H locs → lv_has ls 7 [(4, .int (nI (6 * (t + 1)))), (3, .ref ou), (2, .ref m0), (1, .ref x0), (0, .ref b)] → W p l e room_1 s m #[Value.ref b] below meth c H locs (cells + 2) (slots + 12) Z (F0 m 23 ls [])) : W p l e room_1 s m #[Value.ref b] below meth c H locs cells slots Z (F0 m 23 ls []) := by
  obtain ⟨hx, hb, hr, hml, hown, hts, hX, hbl, hlocks, hgv⟩ := id C0
  have hown : s.vm.findClass RL = some m.cls := hown
  have hA : ∀ q : Nat, s.heap.size ≤ q → (fun q : Nat => s.heap.size ≤ q) q := fun _ h => h
  have hbA : ¬ (fun q : Nat => s.heap.size ≤ q) b := Nat.not_le.mpr hbl
  refine tn_feed hlt C0 hLn hev hK hI hP hD hS hl rfl ht hc hs hop (lo_feed hlt C0 hLn hev hK hI hP hD hS hl rfl ht hc hs ?_)
  intro L2 f2 fo2 i2 a2 H locs ls hI hR hP hD hS hl
  refine lv_iinc (v := nI (6 * (t + 1))) (lv' := [(4, .int (nI (6 * (t + 1)))), (3, .ref ou), (2, .ref m0), (1, .ref x0), (0, .ref b)]) hx hb dL_law_1386 hl (k := 0) rfl (by show nI (6 * t) + nI 6 = nI (6 * (t + 1)); rw [nI_add]; exact congrArg nI (by omega)) (by decide) rfl (fun ls hl => ?_)
  refine lv_goto (tgt := 23) hx hb dL_law_1389 (by decide) ?_
  exact hk L2 f2 fo2 i2 a2 H locs ls hI hR hP hD hS hl

set_option maxHeartbeats 4000000 in
set_option maxRecDepth 100000 in
theorem tn_lime {Z : State → Prop} {p : Program} {l : Launch} {e : Env} {s : State} {m : MethodId} {below : List Frame} {meth : Method} {c : Code} {b Ln : Nat} {xs : Nat → Int32} (hlt : l.stackTraces = false) (C0 : lw_At p s m meth c b Ln xs) (hLn : Ln ≤ 3072) {dC : Nat → ClassId} {dI : Nat → Nat → Nat} {sa : Nat → Nat} (hev : ev sa (fun q : Nat => s.heap.size ≤ q) s s.heap) {x0 rdr tok tp ka sta vaa wk vs cl ru pl tvr tc rc m0 ou : Nat} {va tv : Nat → Nat} {co : ClassId} {g gm bm : Nat → Nat} (hK : va_K (dC, dI) vwCl (tyG g ++ [(co, .long)] ++ tyM gm) s) {L : List Nat} {f : Nat → va_E} {fo : Nat → Int64} {i : Nat → Int32} {a : Nat → Nat → Int32} {H : Heap} {locs : List Loc} {ls : Array Slot} {cells slots t : Nat} {ii : Int32} (hI : LI g ((x0, rdr, tok, tp, ka, sta, vaa), (wk, vs, cl, ru, va), (pl, tvr, tc, tv), rc) ((10000 * t : Nat) : Int) L f i a) (hP : va_P (dC, dI) vwCl ((va_pl L f ++ [(ou, .inl (co, 1, .inr (.inl fo)))]) ++ mw gm m0 bm i a) H) (hD : va_D (fun q : Nat => s.heap.size ≤ q) ((va_pl L f ++ [(ou, .inl (co, 1, .inr (.inl fo)))]) ++ mw gm m0 bm i a)) (hS : va_S (fun q : Nat => s.heap.size ≤ q) s.heap H locs) (hl : lv_has ls 7 [(4, .int ii), (3, .ref ou), (2, .ref m0), (1, .ref x0), (0, .ref b)]) (hii : ii = nI (6 * t)) (ht : 6 * t + 6 ≤ Ln) (hc : cells + 2 ≤ 601024) (hs : slots + 12 ≤ 7293034) (hop : xs (6 * t) = 2) (hk : W p l e room_1 s m #[Value.ref b] below meth c H locs cells slots Z (F0 m 268 ls [])) : W p l e room_1 s m #[Value.ref b] below meth c H locs cells slots Z (F0 m 23 ls []) := by
  obtain ⟨hx, hb, hr, hml, hown, hts, hX, hbl, hlocks, hgv⟩ := id C0
  have hown : s.vm.findClass RL = some m.cls := hown
  have hA : ∀ q : Nat, s.heap.size ≤ q → (fun q : Nat => s.heap.size ≤ q) q := fun _ h => h
  have hbA : ¬ (fun q : Nat => s.heap.size ≤ q) b := Nat.not_le.mpr hbl
  refine lv_iload hx hb dL_law_23 (lv_at hl 0 rfl) ?_
  refine lv_aload_n hx hb dL_law_25 rfl (lv_at hl 4 rfl) ?_
  refine va_slen hx hb hX hbl hbA hS dL_law_26 ?_
  refine lv_topi (fun z_1 ez_1 => ?_)
  refine lv_bipush (v := 6) hx hb dL_law_27 (by decide) ?_
  refine lv_isub hx hb dL_law_29 ?_
  refine lv_topi (fun z_2 ez_2 => ?_)
  refine lv_icmp_gt (tgt := 1392) hx hb dL_law_30 (by decide) (fun c_3 => absurd c_3 (sc_nl hii ez_1 ez_2 hLn ht)) (fun c_3 => ?_)
  refine lv_aload_n hx hb dL_law_33 rfl (lv_at hl 4 rfl) ?_
  refine lv_iload hx hb dL_law_34 (lv_at hl 0 rfl) ?_
  refine va_sld hx hb hX hbl hbA hS (sc_in0 hii ht hLn) dL_law_36 ?_
  refine lv_topi (fun z_4 ez_4 => ?_)
  refine lv_bipush (v := 31) hx hb dL_law_37 (by decide) ?_
  refine lv_iand hx hb dL_law_39 ?_
  refine lv_topi (fun z_5 ez_5 => ?_)
  have c_6 : z_5 = 2 := by rw [ez_5, ez_4, sc_0 (xs := xs) hii (by omega), hop]; decide
  refine lv_tableIn (tgt := 268) hx hb dL_law_40 (by rw [c_6]; decide) (by rw [c_6]; decide) (by rw [c_6]; rfl) (by decide) ?_
  exact hk

set_option maxHeartbeats 4000000 in
set_option maxRecDepth 100000 in
theorem sp_lime {Z : State → Prop} {p : Program} {l : Launch} {e : Env} {s : State} {m : MethodId} {below : List Frame} {meth : Method} {c : Code} {b Ln : Nat} {xs : Nat → Int32} (hlt : l.stackTraces = false) (C0 : lw_At p s m meth c b Ln xs) (hLn : Ln ≤ 3072) {dC : Nat → ClassId} {dI : Nat → Nat → Nat} {sa : Nat → Nat} (hev : ev sa (fun q : Nat => s.heap.size ≤ q) s s.heap) {x0 rdr tok tp ka sta vaa wk vs cl ru pl tvr tc rc m0 ou : Nat} {va tv : Nat → Nat} {co : ClassId} {g gm bm : Nat → Nat} (hK : va_K (dC, dI) vwCl (tyG g ++ [(co, .long)] ++ tyM gm) s) {L : List Nat} {f : Nat → va_E} {fo : Nat → Int64} {i : Nat → Int32} {a : Nat → Nat → Int32} {H : Heap} {locs : List Loc} {ls : Array Slot} {cells slots t : Nat}  (hI : LI g ((x0, rdr, tok, tp, ka, sta, vaa), (wk, vs, cl, ru, va), (pl, tvr, tc, tv), rc) ((10000 * t : Nat) : Int) L f i a) (hP : va_P (dC, dI) vwCl ((va_pl L f ++ [(ou, .inl (co, 1, .inr (.inl fo)))]) ++ mw gm m0 bm i a) H) (hD : va_D (fun q : Nat => s.heap.size ≤ q) ((va_pl L f ++ [(ou, .inl (co, 1, .inr (.inl fo)))]) ++ mw gm m0 bm i a)) (hS : va_S (fun q : Nat => s.heap.size ≤ q) s.heap H locs) (hl : lv_has ls 7 [(4, .int (nI (6 * t))), (3, .ref ou), (2, .ref m0), (1, .ref x0), (0, .ref b)]) (ht : 6 * t + 6 ≤ Ln) (hc : cells + 2 ≤ 601024) (hs : slots + 12 ≤ 7293034) (hop : xs (6 * t) = 2) (hk : ∀ (L2 : List Nat) (f2 : Nat → va_E) (fo2 : Nat → Int64) (i2 : Nat → Int32) (a2 : Nat → Nat → Int32) (H : Heap) (locs : List Loc) (ls : Array Slot), LI g ((x0, rdr, tok, tp, ka, sta, vaa), (wk, vs, cl, ru, va), (pl, tvr, tc, tv), rc) ((10000 * (t + 1) : Nat) : Int) L2 f2 i2 a2 → ((∀ j : Nat, j ≠ 0 → i2 j = (lmS (xs (6 * t + 1)) (i, a)).2.2.1 j) ∧ a2 = (lmS (xs (6 * t + 1)) (i, a)).2.2.2) → va_P (dC, dI) vwCl ((va_pl L2 f2 ++ [(ou, .inl (co, 1, .inr (.inl fo2)))]) ++ mw gm m0 bm i2 a2) H → va_D (fun q : Nat => s.heap.size ≤ q) ((va_pl L2 f2 ++ [(ou, .inl (co, 1, .inr (.inl fo2)))]) ++ mw gm m0 bm i2 a2) → va_S (fun q : Nat => s.heap.size ≤ q) s.heap H locs → lv_has ls 7 [(4, .int (nI (6 * (t + 1)))), (3, .ref ou), (2, .ref m0), (1, .ref x0), (0, .ref b)] → W p l e room_1 s m #[Value.ref b] below meth c H locs (cells + 2) (slots + 12) Z (F0 m 23 ls [])) : W p l e room_1 s m #[Value.ref b] below meth c H locs cells slots Z (F0 m 23 ls []) := by
  obtain ⟨hx, hb, hr, hml, hown, hts, hX, hbl, hlocks, hgv⟩ := id C0
  have hown : s.vm.findClass RL = some m.cls := hown
  have hA : ∀ q : Nat, s.heap.size ≤ q → (fun q : Nat => s.heap.size ≤ q) q := fun _ h => h
  have hbA : ¬ (fun q : Nat => s.heap.size ≤ q) b := Nat.not_le.mpr hbl
  refine tn_lime hlt C0 hLn hev hK hI hP hD hS hl rfl ht hc hs hop (lo_lime hlt C0 hLn hev hK hI hP hD hS hl rfl ht hc hs ?_)
  intro L2 f2 fo2 i2 a2 H locs ls hI hR hP hD hS hl
  refine lv_iinc (v := nI (6 * (t + 1))) (lv' := [(4, .int (nI (6 * (t + 1)))), (3, .ref ou), (2, .ref m0), (1, .ref x0), (0, .ref b)]) hx hb dL_law_1386 hl (k := 0) rfl (by show nI (6 * t) + nI 6 = nI (6 * (t + 1)); rw [nI_add]; exact congrArg nI (by omega)) (by decide) rfl (fun ls hl => ?_)
  refine lv_goto (tgt := 23) hx hb dL_law_1389 (by decide) ?_
  exact hk L2 f2 fo2 i2 a2 H locs ls hI hR hP hD hS hl

set_option maxHeartbeats 4000000 in
set_option maxRecDepth 100000 in
theorem tn_treat {Z : State → Prop} {p : Program} {l : Launch} {e : Env} {s : State} {m : MethodId} {below : List Frame} {meth : Method} {c : Code} {b Ln : Nat} {xs : Nat → Int32} (hlt : l.stackTraces = false) (C0 : lw_At p s m meth c b Ln xs) (hLn : Ln ≤ 3072) {dC : Nat → ClassId} {dI : Nat → Nat → Nat} {sa : Nat → Nat} (hev : ev sa (fun q : Nat => s.heap.size ≤ q) s s.heap) {x0 rdr tok tp ka sta vaa wk vs cl ru pl tvr tc rc m0 ou : Nat} {va tv : Nat → Nat} {co : ClassId} {g gm bm : Nat → Nat} (hK : va_K (dC, dI) vwCl (tyG g ++ [(co, .long)] ++ tyM gm) s) {L : List Nat} {f : Nat → va_E} {fo : Nat → Int64} {i : Nat → Int32} {a : Nat → Nat → Int32} {H : Heap} {locs : List Loc} {ls : Array Slot} {cells slots t : Nat} {ii : Int32} (hI : LI g ((x0, rdr, tok, tp, ka, sta, vaa), (wk, vs, cl, ru, va), (pl, tvr, tc, tv), rc) ((10000 * t : Nat) : Int) L f i a) (hP : va_P (dC, dI) vwCl ((va_pl L f ++ [(ou, .inl (co, 1, .inr (.inl fo)))]) ++ mw gm m0 bm i a) H) (hD : va_D (fun q : Nat => s.heap.size ≤ q) ((va_pl L f ++ [(ou, .inl (co, 1, .inr (.inl fo)))]) ++ mw gm m0 bm i a)) (hS : va_S (fun q : Nat => s.heap.size ≤ q) s.heap H locs) (hl : lv_has ls 7 [(4, .int ii), (3, .ref ou), (2, .ref m0), (1, .ref x0), (0, .ref b)]) (hii : ii = nI (6 * t)) (ht : 6 * t + 6 ≤ Ln) (hc : cells + 2 ≤ 601024) (hs : slots + 12 ≤ 7293034) (hop : xs (6 * t) = 6) (hk : W p l e room_1 s m #[Value.ref b] below meth c H locs cells slots Z (F0 m 485 ls [])) : W p l e room_1 s m #[Value.ref b] below meth c H locs cells slots Z (F0 m 23 ls []) := by
  obtain ⟨hx, hb, hr, hml, hown, hts, hX, hbl, hlocks, hgv⟩ := id C0
  have hown : s.vm.findClass RL = some m.cls := hown
  have hA : ∀ q : Nat, s.heap.size ≤ q → (fun q : Nat => s.heap.size ≤ q) q := fun _ h => h
  have hbA : ¬ (fun q : Nat => s.heap.size ≤ q) b := Nat.not_le.mpr hbl
  refine lv_iload hx hb dL_law_23 (lv_at hl 0 rfl) ?_
  refine lv_aload_n hx hb dL_law_25 rfl (lv_at hl 4 rfl) ?_
  refine va_slen hx hb hX hbl hbA hS dL_law_26 ?_
  refine lv_topi (fun z_1 ez_1 => ?_)
  refine lv_bipush (v := 6) hx hb dL_law_27 (by decide) ?_
  refine lv_isub hx hb dL_law_29 ?_
  refine lv_topi (fun z_2 ez_2 => ?_)
  refine lv_icmp_gt (tgt := 1392) hx hb dL_law_30 (by decide) (fun c_3 => absurd c_3 (sc_nl hii ez_1 ez_2 hLn ht)) (fun c_3 => ?_)
  refine lv_aload_n hx hb dL_law_33 rfl (lv_at hl 4 rfl) ?_
  refine lv_iload hx hb dL_law_34 (lv_at hl 0 rfl) ?_
  refine va_sld hx hb hX hbl hbA hS (sc_in0 hii ht hLn) dL_law_36 ?_
  refine lv_topi (fun z_4 ez_4 => ?_)
  refine lv_bipush (v := 31) hx hb dL_law_37 (by decide) ?_
  refine lv_iand hx hb dL_law_39 ?_
  refine lv_topi (fun z_5 ez_5 => ?_)
  have c_6 : z_5 = 6 := by rw [ez_5, ez_4, sc_0 (xs := xs) hii (by omega), hop]; decide
  refine lv_tableIn (tgt := 485) hx hb dL_law_40 (by rw [c_6]; decide) (by rw [c_6]; decide) (by rw [c_6]; rfl) (by decide) ?_
  exact hk

set_option maxHeartbeats 4000000 in
set_option maxRecDepth 100000 in
theorem sp_treat {Z : State → Prop} {p : Program} {l : Launch} {e : Env} {s : State} {m : MethodId} {below : List Frame} {meth : Method} {c : Code} {b Ln : Nat} {xs : Nat → Int32} (hlt : l.stackTraces = false) (C0 : lw_At p s m meth c b Ln xs) (hLn : Ln ≤ 3072) {dC : Nat → ClassId} {dI : Nat → Nat → Nat} {sa : Nat → Nat} (hev : ev sa (fun q : Nat => s.heap.size ≤ q) s s.heap) {x0 rdr tok tp ka sta vaa wk vs cl ru pl tvr tc rc m0 ou : Nat} {va tv : Nat → Nat} {co : ClassId} {g gm bm : Nat → Nat} (hK : va_K (dC, dI) vwCl (tyG g ++ [(co, .long)] ++ tyM gm) s) {L : List Nat} {f : Nat → va_E} {fo : Nat → Int64} {i : Nat → Int32} {a : Nat → Nat → Int32} {H : Heap} {locs : List Loc} {ls : Array Slot} {cells slots t : Nat}  (hI : LI g ((x0, rdr, tok, tp, ka, sta, vaa), (wk, vs, cl, ru, va), (pl, tvr, tc, tv), rc) ((10000 * t : Nat) : Int) L f i a) (hP : va_P (dC, dI) vwCl ((va_pl L f ++ [(ou, .inl (co, 1, .inr (.inl fo)))]) ++ mw gm m0 bm i a) H) (hD : va_D (fun q : Nat => s.heap.size ≤ q) ((va_pl L f ++ [(ou, .inl (co, 1, .inr (.inl fo)))]) ++ mw gm m0 bm i a)) (hS : va_S (fun q : Nat => s.heap.size ≤ q) s.heap H locs) (hl : lv_has ls 7 [(4, .int (nI (6 * t))), (3, .ref ou), (2, .ref m0), (1, .ref x0), (0, .ref b)]) (ht : 6 * t + 6 ≤ Ln) (hc : cells + 2 ≤ 601024) (hs : slots + 12 ≤ 7293034) (hop : xs (6 * t) = 6) (hk : ∀ (L2 : List Nat) (f2 : Nat → va_E) (fo2 : Nat → Int64) (i2 : Nat → Int32) (a2 : Nat → Nat → Int32) (H : Heap) (locs : List Loc) (ls : Array Slot), LI g ((x0, rdr, tok, tp, ka, sta, vaa), (wk, vs, cl, ru, va), (pl, tvr, tc, tv), rc) ((10000 * (t + 1) : Nat) : Int) L2 f2 i2 a2 → ((∀ j : Nat, j ≠ 0 → i2 j = (trS (xs (6 * t + 1)) (xs (6 * t + 2)) (i, a)).2.2.1 j) ∧ a2 = (trS (xs (6 * t + 1)) (xs (6 * t + 2)) (i, a)).2.2.2) → va_P (dC, dI) vwCl ((va_pl L2 f2 ++ [(ou, .inl (co, 1, .inr (.inl fo2)))]) ++ mw gm m0 bm i2 a2) H → va_D (fun q : Nat => s.heap.size ≤ q) ((va_pl L2 f2 ++ [(ou, .inl (co, 1, .inr (.inl fo2)))]) ++ mw gm m0 bm i2 a2) → va_S (fun q : Nat => s.heap.size ≤ q) s.heap H locs → lv_has ls 7 [(4, .int (nI (6 * (t + 1)))), (3, .ref ou), (2, .ref m0), (1, .ref x0), (0, .ref b)] → W p l e room_1 s m #[Value.ref b] below meth c H locs (cells + 2) (slots + 12) Z (F0 m 23 ls [])) : W p l e room_1 s m #[Value.ref b] below meth c H locs cells slots Z (F0 m 23 ls []) := by
  obtain ⟨hx, hb, hr, hml, hown, hts, hX, hbl, hlocks, hgv⟩ := id C0
  have hown : s.vm.findClass RL = some m.cls := hown
  have hA : ∀ q : Nat, s.heap.size ≤ q → (fun q : Nat => s.heap.size ≤ q) q := fun _ h => h
  have hbA : ¬ (fun q : Nat => s.heap.size ≤ q) b := Nat.not_le.mpr hbl
  refine tn_treat hlt C0 hLn hev hK hI hP hD hS hl rfl ht hc hs hop (lo_treat hlt C0 hLn hev hK hI hP hD hS hl rfl ht hc hs ?_)
  intro L2 f2 fo2 i2 a2 H locs ls hI hR hP hD hS hl
  refine lv_iinc (v := nI (6 * (t + 1))) (lv' := [(4, .int (nI (6 * (t + 1)))), (3, .ref ou), (2, .ref m0), (1, .ref x0), (0, .ref b)]) hx hb dL_law_1386 hl (k := 0) rfl (by show nI (6 * t) + nI 6 = nI (6 * (t + 1)); rw [nI_add]; exact congrArg nI (by omega)) (by decide) rfl (fun ls hl => ?_)
  refine lv_goto (tgt := 23) hx hb dL_law_1389 (by decide) ?_
  exact hk L2 f2 fo2 i2 a2 H locs ls hI hR hP hD hS hl

set_option maxHeartbeats 4000000 in
set_option maxRecDepth 100000 in
theorem tn_cloth {Z : State → Prop} {p : Program} {l : Launch} {e : Env} {s : State} {m : MethodId} {below : List Frame} {meth : Method} {c : Code} {b Ln : Nat} {xs : Nat → Int32} (hlt : l.stackTraces = false) (C0 : lw_At p s m meth c b Ln xs) (hLn : Ln ≤ 3072) {dC : Nat → ClassId} {dI : Nat → Nat → Nat} {sa : Nat → Nat} (hev : ev sa (fun q : Nat => s.heap.size ≤ q) s s.heap) {x0 rdr tok tp ka sta vaa wk vs cl ru pl tvr tc rc m0 ou : Nat} {va tv : Nat → Nat} {co : ClassId} {g gm bm : Nat → Nat} (hK : va_K (dC, dI) vwCl (tyG g ++ [(co, .long)] ++ tyM gm) s) {L : List Nat} {f : Nat → va_E} {fo : Nat → Int64} {i : Nat → Int32} {a : Nat → Nat → Int32} {H : Heap} {locs : List Loc} {ls : Array Slot} {cells slots t : Nat} {ii : Int32} (hI : LI g ((x0, rdr, tok, tp, ka, sta, vaa), (wk, vs, cl, ru, va), (pl, tvr, tc, tv), rc) ((10000 * t : Nat) : Int) L f i a) (hP : va_P (dC, dI) vwCl ((va_pl L f ++ [(ou, .inl (co, 1, .inr (.inl fo)))]) ++ mw gm m0 bm i a) H) (hD : va_D (fun q : Nat => s.heap.size ≤ q) ((va_pl L f ++ [(ou, .inl (co, 1, .inr (.inl fo)))]) ++ mw gm m0 bm i a)) (hS : va_S (fun q : Nat => s.heap.size ≤ q) s.heap H locs) (hl : lv_has ls 7 [(4, .int ii), (3, .ref ou), (2, .ref m0), (1, .ref x0), (0, .ref b)]) (hii : ii = nI (6 * t)) (ht : 6 * t + 6 ≤ Ln) (hc : cells + 2 ≤ 601024) (hs : slots + 12 ≤ 7293034) (hop : xs (6 * t) = 4) (hk : W p l e room_1 s m #[Value.ref b] below meth c H locs cells slots Z (F0 m 380 ls [])) : W p l e room_1 s m #[Value.ref b] below meth c H locs cells slots Z (F0 m 23 ls []) := by
  obtain ⟨hx, hb, hr, hml, hown, hts, hX, hbl, hlocks, hgv⟩ := id C0
  have hown : s.vm.findClass RL = some m.cls := hown
  have hA : ∀ q : Nat, s.heap.size ≤ q → (fun q : Nat => s.heap.size ≤ q) q := fun _ h => h
  have hbA : ¬ (fun q : Nat => s.heap.size ≤ q) b := Nat.not_le.mpr hbl
  refine lv_iload hx hb dL_law_23 (lv_at hl 0 rfl) ?_
  refine lv_aload_n hx hb dL_law_25 rfl (lv_at hl 4 rfl) ?_
  refine va_slen hx hb hX hbl hbA hS dL_law_26 ?_
  refine lv_topi (fun z_1 ez_1 => ?_)
  refine lv_bipush (v := 6) hx hb dL_law_27 (by decide) ?_
  refine lv_isub hx hb dL_law_29 ?_
  refine lv_topi (fun z_2 ez_2 => ?_)
  refine lv_icmp_gt (tgt := 1392) hx hb dL_law_30 (by decide) (fun c_3 => absurd c_3 (sc_nl hii ez_1 ez_2 hLn ht)) (fun c_3 => ?_)
  refine lv_aload_n hx hb dL_law_33 rfl (lv_at hl 4 rfl) ?_
  refine lv_iload hx hb dL_law_34 (lv_at hl 0 rfl) ?_
  refine va_sld hx hb hX hbl hbA hS (sc_in0 hii ht hLn) dL_law_36 ?_
  refine lv_topi (fun z_4 ez_4 => ?_)
  refine lv_bipush (v := 31) hx hb dL_law_37 (by decide) ?_
  refine lv_iand hx hb dL_law_39 ?_
  refine lv_topi (fun z_5 ez_5 => ?_)
  have c_6 : z_5 = 4 := by rw [ez_5, ez_4, sc_0 (xs := xs) hii (by omega), hop]; decide
  refine lv_tableIn (tgt := 380) hx hb dL_law_40 (by rw [c_6]; decide) (by rw [c_6]; decide) (by rw [c_6]; rfl) (by decide) ?_
  exact hk

set_option maxHeartbeats 4000000 in
set_option maxRecDepth 100000 in
theorem sp_cloth {Z : State → Prop} {p : Program} {l : Launch} {e : Env} {s : State} {m : MethodId} {below : List Frame} {meth : Method} {c : Code} {b Ln : Nat} {xs : Nat → Int32} (hlt : l.stackTraces = false) (C0 : lw_At p s m meth c b Ln xs) (hLn : Ln ≤ 3072) {dC : Nat → ClassId} {dI : Nat → Nat → Nat} {sa : Nat → Nat} (hev : ev sa (fun q : Nat => s.heap.size ≤ q) s s.heap) {x0 rdr tok tp ka sta vaa wk vs cl ru pl tvr tc rc m0 ou : Nat} {va tv : Nat → Nat} {co : ClassId} {g gm bm : Nat → Nat} (hK : va_K (dC, dI) vwCl (tyG g ++ [(co, .long)] ++ tyM gm) s) {L : List Nat} {f : Nat → va_E} {fo : Nat → Int64} {i : Nat → Int32} {a : Nat → Nat → Int32} {H : Heap} {locs : List Loc} {ls : Array Slot} {cells slots t : Nat}  (hI : LI g ((x0, rdr, tok, tp, ka, sta, vaa), (wk, vs, cl, ru, va), (pl, tvr, tc, tv), rc) ((10000 * t : Nat) : Int) L f i a) (hP : va_P (dC, dI) vwCl ((va_pl L f ++ [(ou, .inl (co, 1, .inr (.inl fo)))]) ++ mw gm m0 bm i a) H) (hD : va_D (fun q : Nat => s.heap.size ≤ q) ((va_pl L f ++ [(ou, .inl (co, 1, .inr (.inl fo)))]) ++ mw gm m0 bm i a)) (hS : va_S (fun q : Nat => s.heap.size ≤ q) s.heap H locs) (hl : lv_has ls 7 [(4, .int (nI (6 * t))), (3, .ref ou), (2, .ref m0), (1, .ref x0), (0, .ref b)]) (ht : 6 * t + 6 ≤ Ln) (hc : cells + 2 ≤ 601024) (hs : slots + 12 ≤ 7293034) (hop : xs (6 * t) = 4) (hk : ∀ (L2 : List Nat) (f2 : Nat → va_E) (fo2 : Nat → Int64) (i2 : Nat → Int32) (a2 : Nat → Nat → Int32) (H : Heap) (locs : List Loc) (ls : Array Slot), LI g ((x0, rdr, tok, tp, ka, sta, vaa), (wk, vs, cl, ru, va), (pl, tvr, tc, tv), rc) ((10000 * (t + 1) : Nat) : Int) L2 f2 i2 a2 → ((∀ j : Nat, j ≠ 0 → i2 j = (clS (xs (6 * t + 1)) (i, a)).2.2.1 j) ∧ a2 = (clS (xs (6 * t + 1)) (i, a)).2.2.2) → va_P (dC, dI) vwCl ((va_pl L2 f2 ++ [(ou, .inl (co, 1, .inr (.inl fo2)))]) ++ mw gm m0 bm i2 a2) H → va_D (fun q : Nat => s.heap.size ≤ q) ((va_pl L2 f2 ++ [(ou, .inl (co, 1, .inr (.inl fo2)))]) ++ mw gm m0 bm i2 a2) → va_S (fun q : Nat => s.heap.size ≤ q) s.heap H locs → lv_has ls 7 [(4, .int (nI (6 * (t + 1)))), (3, .ref ou), (2, .ref m0), (1, .ref x0), (0, .ref b)] → W p l e room_1 s m #[Value.ref b] below meth c H locs (cells + 2) (slots + 12) Z (F0 m 23 ls [])) : W p l e room_1 s m #[Value.ref b] below meth c H locs cells slots Z (F0 m 23 ls []) := by
  obtain ⟨hx, hb, hr, hml, hown, hts, hX, hbl, hlocks, hgv⟩ := id C0
  have hown : s.vm.findClass RL = some m.cls := hown
  have hA : ∀ q : Nat, s.heap.size ≤ q → (fun q : Nat => s.heap.size ≤ q) q := fun _ h => h
  have hbA : ¬ (fun q : Nat => s.heap.size ≤ q) b := Nat.not_le.mpr hbl
  refine tn_cloth hlt C0 hLn hev hK hI hP hD hS hl rfl ht hc hs hop (lo_cloth hlt C0 hLn hev hK hI hP hD hS hl rfl ht hc hs ?_)
  intro L2 f2 fo2 i2 a2 H locs ls hI hR hP hD hS hl
  refine lv_iinc (v := nI (6 * (t + 1))) (lv' := [(4, .int (nI (6 * (t + 1)))), (3, .ref ou), (2, .ref m0), (1, .ref x0), (0, .ref b)]) hx hb dL_law_1386 hl (k := 0) rfl (by show nI (6 * t) + nI 6 = nI (6 * (t + 1)); rw [nI_add]; exact congrArg nI (by omega)) (by decide) rfl (fun ls hl => ?_)
  refine lv_goto (tgt := 23) hx hb dL_law_1389 (by decide) ?_
  exact hk L2 f2 fo2 i2 a2 H locs ls hI hR hP hD hS hl

set_option maxHeartbeats 4000000 in
set_option maxRecDepth 100000 in
theorem tn_plan {Z : State → Prop} {p : Program} {l : Launch} {e : Env} {s : State} {m : MethodId} {below : List Frame} {meth : Method} {c : Code} {b Ln : Nat} {xs : Nat → Int32} (hlt : l.stackTraces = false) (C0 : lw_At p s m meth c b Ln xs) (hLn : Ln ≤ 3072) {dC : Nat → ClassId} {dI : Nat → Nat → Nat} {sa : Nat → Nat} (hev : ev sa (fun q : Nat => s.heap.size ≤ q) s s.heap) {x0 rdr tok tp ka sta vaa wk vs cl ru pl tvr tc rc m0 ou : Nat} {va tv : Nat → Nat} {co : ClassId} {g gm bm : Nat → Nat} (hK : va_K (dC, dI) vwCl (tyG g ++ [(co, .long)] ++ tyM gm) s) {L : List Nat} {f : Nat → va_E} {fo : Nat → Int64} {i : Nat → Int32} {a : Nat → Nat → Int32} {H : Heap} {locs : List Loc} {ls : Array Slot} {cells slots t : Nat} {ii : Int32} (hI : LI g ((x0, rdr, tok, tp, ka, sta, vaa), (wk, vs, cl, ru, va), (pl, tvr, tc, tv), rc) ((10000 * t : Nat) : Int) L f i a) (hP : va_P (dC, dI) vwCl ((va_pl L f ++ [(ou, .inl (co, 1, .inr (.inl fo)))]) ++ mw gm m0 bm i a) H) (hD : va_D (fun q : Nat => s.heap.size ≤ q) ((va_pl L f ++ [(ou, .inl (co, 1, .inr (.inl fo)))]) ++ mw gm m0 bm i a)) (hS : va_S (fun q : Nat => s.heap.size ≤ q) s.heap H locs) (hl : lv_has ls 7 [(4, .int ii), (3, .ref ou), (2, .ref m0), (1, .ref x0), (0, .ref b)]) (hii : ii = nI (6 * t)) (ht : 6 * t + 6 ≤ Ln) (hc : cells + 2 ≤ 601024) (hs : slots + 12 ≤ 7293034) (hop : xs (6 * t) = 12) (hk : W p l e room_1 s m #[Value.ref b] below meth c H locs cells slots Z (F0 m 886 ls [])) : W p l e room_1 s m #[Value.ref b] below meth c H locs cells slots Z (F0 m 23 ls []) := by
  obtain ⟨hx, hb, hr, hml, hown, hts, hX, hbl, hlocks, hgv⟩ := id C0
  have hown : s.vm.findClass RL = some m.cls := hown
  have hA : ∀ q : Nat, s.heap.size ≤ q → (fun q : Nat => s.heap.size ≤ q) q := fun _ h => h
  have hbA : ¬ (fun q : Nat => s.heap.size ≤ q) b := Nat.not_le.mpr hbl
  refine lv_iload hx hb dL_law_23 (lv_at hl 0 rfl) ?_
  refine lv_aload_n hx hb dL_law_25 rfl (lv_at hl 4 rfl) ?_
  refine va_slen hx hb hX hbl hbA hS dL_law_26 ?_
  refine lv_topi (fun z_1 ez_1 => ?_)
  refine lv_bipush (v := 6) hx hb dL_law_27 (by decide) ?_
  refine lv_isub hx hb dL_law_29 ?_
  refine lv_topi (fun z_2 ez_2 => ?_)
  refine lv_icmp_gt (tgt := 1392) hx hb dL_law_30 (by decide) (fun c_3 => absurd c_3 (sc_nl hii ez_1 ez_2 hLn ht)) (fun c_3 => ?_)
  refine lv_aload_n hx hb dL_law_33 rfl (lv_at hl 4 rfl) ?_
  refine lv_iload hx hb dL_law_34 (lv_at hl 0 rfl) ?_
  refine va_sld hx hb hX hbl hbA hS (sc_in0 hii ht hLn) dL_law_36 ?_
  refine lv_topi (fun z_4 ez_4 => ?_)
  refine lv_bipush (v := 31) hx hb dL_law_37 (by decide) ?_
  refine lv_iand hx hb dL_law_39 ?_
  refine lv_topi (fun z_5 ez_5 => ?_)
  have c_6 : z_5 = 12 := by rw [ez_5, ez_4, sc_0 (xs := xs) hii (by omega), hop]; decide
  refine lv_tableIn (tgt := 886) hx hb dL_law_40 (by rw [c_6]; decide) (by rw [c_6]; decide) (by rw [c_6]; rfl) (by decide) ?_
  exact hk

set_option maxHeartbeats 4000000 in
set_option maxRecDepth 100000 in
theorem sp_plan {Z : State → Prop} {p : Program} {l : Launch} {e : Env} {s : State} {m : MethodId} {below : List Frame} {meth : Method} {c : Code} {b Ln : Nat} {xs : Nat → Int32} (hlt : l.stackTraces = false) (C0 : lw_At p s m meth c b Ln xs) (hLn : Ln ≤ 3072) {dC : Nat → ClassId} {dI : Nat → Nat → Nat} {sa : Nat → Nat} (hev : ev sa (fun q : Nat => s.heap.size ≤ q) s s.heap) {x0 rdr tok tp ka sta vaa wk vs cl ru pl tvr tc rc m0 ou : Nat} {va tv : Nat → Nat} {co : ClassId} {g gm bm : Nat → Nat} (hK : va_K (dC, dI) vwCl (tyG g ++ [(co, .long)] ++ tyM gm) s) {L : List Nat} {f : Nat → va_E} {fo : Nat → Int64} {i : Nat → Int32} {a : Nat → Nat → Int32} {H : Heap} {locs : List Loc} {ls : Array Slot} {cells slots t : Nat}  (hI : LI g ((x0, rdr, tok, tp, ka, sta, vaa), (wk, vs, cl, ru, va), (pl, tvr, tc, tv), rc) ((10000 * t : Nat) : Int) L f i a) (hP : va_P (dC, dI) vwCl ((va_pl L f ++ [(ou, .inl (co, 1, .inr (.inl fo)))]) ++ mw gm m0 bm i a) H) (hD : va_D (fun q : Nat => s.heap.size ≤ q) ((va_pl L f ++ [(ou, .inl (co, 1, .inr (.inl fo)))]) ++ mw gm m0 bm i a)) (hS : va_S (fun q : Nat => s.heap.size ≤ q) s.heap H locs) (hl : lv_has ls 7 [(4, .int (nI (6 * t))), (3, .ref ou), (2, .ref m0), (1, .ref x0), (0, .ref b)]) (ht : 6 * t + 6 ≤ Ln) (hc : cells + 2 ≤ 601024) (hs : slots + 12 ≤ 7293034) (hop : xs (6 * t) = 12) {kq : Int32} (hkq : rd f pl 5 = .int kq) (hk : ∀ (L2 : List Nat) (f2 : Nat → va_E) (fo2 : Nat → Int64) (i2 : Nat → Int32) (a2 : Nat → Nat → Int32) (H : Heap) (locs : List Loc) (ls : Array Slot), LI g ((x0, rdr, tok, tp, ka, sta, vaa), (wk, vs, cl, ru, va), (pl, tvr, tc, tv), rc) ((10000 * (t + 1) : Nat) : Int) L2 f2 i2 a2 → ((∀ j : Nat, j ≠ 0 → j ≠ 46 → i2 j = i j) ∧ (∀ j : Nat, j < 36 → a2 j = a j) ∧ ∃ o8 : OP, plS (xs (6 * t + 1)) (xs (6 * t + 2)) (xs (6 * t + 3)) (xs (6 * t + 4)) (i, a) o8 ∧ (o8.1 = 0 → (o8.2.1 = -1 → i2 46 = 0) ∧ ∃ k5 : Int32, rd f2 pl 5 = .int k5 ∧ (¬ a 16 (xs (6 * t + 1)).toNatClampNeg = -1 → k5 = kq) ∧ (a 16 (xs (6 * t + 1)).toNatClampNeg = -1 → (o8.2.1 = -1 ∧ k5 = 0) ∨ o8.2.1 = k5))) → va_P (dC, dI) vwCl ((va_pl L2 f2 ++ [(ou, .inl (co, 1, .inr (.inl fo2)))]) ++ mw gm m0 bm i2 a2) H → va_D (fun q : Nat => s.heap.size ≤ q) ((va_pl L2 f2 ++ [(ou, .inl (co, 1, .inr (.inl fo2)))]) ++ mw gm m0 bm i2 a2) → va_S (fun q : Nat => s.heap.size ≤ q) s.heap H locs → lv_has ls 7 [(4, .int (nI (6 * (t + 1)))), (3, .ref ou), (2, .ref m0), (1, .ref x0), (0, .ref b)] → W p l e room_1 s m #[Value.ref b] below meth c H locs (cells + 2) (slots + 12) Z (F0 m 23 ls [])) : W p l e room_1 s m #[Value.ref b] below meth c H locs cells slots Z (F0 m 23 ls []) := by
  obtain ⟨hx, hb, hr, hml, hown, hts, hX, hbl, hlocks, hgv⟩ := id C0
  have hown : s.vm.findClass RL = some m.cls := hown
  have hA : ∀ q : Nat, s.heap.size ≤ q → (fun q : Nat => s.heap.size ≤ q) q := fun _ h => h
  have hbA : ¬ (fun q : Nat => s.heap.size ≤ q) b := Nat.not_le.mpr hbl
  refine tn_plan hlt C0 hLn hev hK hI hP hD hS hl rfl ht hc hs hop (lo_plan hlt C0 hLn hev hK hI hP hD hS hl rfl ht hc hs hkq ?_)
  intro L2 f2 fo2 i2 a2 H locs ls hI hR hP hD hS hl
  refine lv_iinc (v := nI (6 * (t + 1))) (lv' := [(4, .int (nI (6 * (t + 1)))), (3, .ref ou), (2, .ref m0), (1, .ref x0), (0, .ref b)]) hx hb dL_law_1386 hl (k := 0) rfl (by show nI (6 * t) + nI 6 = nI (6 * (t + 1)); rw [nI_add]; exact congrArg nI (by omega)) (by decide) rfl (fun ls hl => ?_)
  refine lv_goto (tgt := 23) hx hb dL_law_1389 (by decide) ?_
  exact hk L2 f2 fo2 i2 a2 H locs ls hI hR hP hD hS hl

set_option maxHeartbeats 4000000 in
set_option maxRecDepth 100000 in
theorem tn_planned {Z : State → Prop} {p : Program} {l : Launch} {e : Env} {s : State} {m : MethodId} {below : List Frame} {meth : Method} {c : Code} {b Ln : Nat} {xs : Nat → Int32} (hlt : l.stackTraces = false) (C0 : lw_At p s m meth c b Ln xs) (hLn : Ln ≤ 3072) {dC : Nat → ClassId} {dI : Nat → Nat → Nat} {sa : Nat → Nat} (hev : ev sa (fun q : Nat => s.heap.size ≤ q) s s.heap) {x0 rdr tok tp ka sta vaa wk vs cl ru pl tvr tc rc m0 ou : Nat} {va tv : Nat → Nat} {co : ClassId} {g gm bm : Nat → Nat} (hK : va_K (dC, dI) vwCl (tyG g ++ [(co, .long)] ++ tyM gm) s) {L : List Nat} {f : Nat → va_E} {fo : Nat → Int64} {i : Nat → Int32} {a : Nat → Nat → Int32} {H : Heap} {locs : List Loc} {ls : Array Slot} {cells slots t : Nat} {ii : Int32} (hI : LI g ((x0, rdr, tok, tp, ka, sta, vaa), (wk, vs, cl, ru, va), (pl, tvr, tc, tv), rc) ((10000 * t : Nat) : Int) L f i a) (hP : va_P (dC, dI) vwCl ((va_pl L f ++ [(ou, .inl (co, 1, .inr (.inl fo)))]) ++ mw gm m0 bm i a) H) (hD : va_D (fun q : Nat => s.heap.size ≤ q) ((va_pl L f ++ [(ou, .inl (co, 1, .inr (.inl fo)))]) ++ mw gm m0 bm i a)) (hS : va_S (fun q : Nat => s.heap.size ≤ q) s.heap H locs) (hl : lv_has ls 7 [(4, .int ii), (3, .ref ou), (2, .ref m0), (1, .ref x0), (0, .ref b)]) (hii : ii = nI (6 * t)) (ht : 6 * t + 6 ≤ Ln) (hc : cells + 2 ≤ 601024) (hs : slots + 12 ≤ 7293034) (hop : xs (6 * t) = 13) (hk : W p l e room_1 s m #[Value.ref b] below meth c H locs cells slots Z (F0 m 978 ls [])) : W p l e room_1 s m #[Value.ref b] below meth c H locs cells slots Z (F0 m 23 ls []) := by
  obtain ⟨hx, hb, hr, hml, hown, hts, hX, hbl, hlocks, hgv⟩ := id C0
  have hown : s.vm.findClass RL = some m.cls := hown
  have hA : ∀ q : Nat, s.heap.size ≤ q → (fun q : Nat => s.heap.size ≤ q) q := fun _ h => h
  have hbA : ¬ (fun q : Nat => s.heap.size ≤ q) b := Nat.not_le.mpr hbl
  refine lv_iload hx hb dL_law_23 (lv_at hl 0 rfl) ?_
  refine lv_aload_n hx hb dL_law_25 rfl (lv_at hl 4 rfl) ?_
  refine va_slen hx hb hX hbl hbA hS dL_law_26 ?_
  refine lv_topi (fun z_1 ez_1 => ?_)
  refine lv_bipush (v := 6) hx hb dL_law_27 (by decide) ?_
  refine lv_isub hx hb dL_law_29 ?_
  refine lv_topi (fun z_2 ez_2 => ?_)
  refine lv_icmp_gt (tgt := 1392) hx hb dL_law_30 (by decide) (fun c_3 => absurd c_3 (sc_nl hii ez_1 ez_2 hLn ht)) (fun c_3 => ?_)
  refine lv_aload_n hx hb dL_law_33 rfl (lv_at hl 4 rfl) ?_
  refine lv_iload hx hb dL_law_34 (lv_at hl 0 rfl) ?_
  refine va_sld hx hb hX hbl hbA hS (sc_in0 hii ht hLn) dL_law_36 ?_
  refine lv_topi (fun z_4 ez_4 => ?_)
  refine lv_bipush (v := 31) hx hb dL_law_37 (by decide) ?_
  refine lv_iand hx hb dL_law_39 ?_
  refine lv_topi (fun z_5 ez_5 => ?_)
  have c_6 : z_5 = 13 := by rw [ez_5, ez_4, sc_0 (xs := xs) hii (by omega), hop]; decide
  refine lv_tableIn (tgt := 978) hx hb dL_law_40 (by rw [c_6]; decide) (by rw [c_6]; decide) (by rw [c_6]; rfl) (by decide) ?_
  exact hk
