theorem LI.mo {g : Nat → Nat} {h : HX} {B B2 : Int} {L : List Nat} {f : Nat → va_E} {i : Nat → Int32} {a : Nat → Nat → Int32} (hI : LI g h B L f i a) (hB : B ≤ B2) : LI g h B2 L f i a := ⟨hI.1, hI.2.1, hI.2.2.1.mo hB, hI.2.2.2⟩
theorem Eqx.ups {α : Type} {K : List Nat} {f g : Nat → α} {k : Nat} {v : α} (hv : v = g k) (h : Eqx K f g) : Eqx K (va_up f k v) g := fun j hj => by
  by_cases e : j = k
  · subst e; rw [hv]; exact va_up_self _ _ _
  · exact (va_up_ne _ _ e).trans (h j hj)
theorem wr_z {r : Option Value} {A : Int32 → Prop} {P : Prop} (h : (∃ v : Int32, r = some (.int 0) ∧ A v) ∨ (r = some (.int 1) ∧ P)) : ∃ z : Int32, r = some (.int z) := by
  rcases h with ⟨-, h, -⟩ | ⟨h, -⟩
  · exact ⟨_, h⟩
  · exact ⟨_, h⟩
theorem wr_z3 {r : Option Value} {A : Int32 → Prop} {P Q : Prop} (h : (∃ v : Int32, r = some (.int 0) ∧ A v) ∨ (r = some (.int 1) ∧ P) ∨ (r = some (.int 2) ∧ Q)) : ∃ z : Int32, r = some (.int z) := by
  rcases h with ⟨-, h, -⟩ | ⟨h, -⟩ | ⟨h, -⟩
  · exact ⟨_, h⟩
  · exact ⟨_, h⟩
  · exact ⟨_, h⟩
theorem st_f0 {g : Nat → Nat} {L L2 : List Nat} {f f2 : Nat → va_E} {x0 wk vs cl ru : Nat} {va : Nat → Nat} {s : AS} {r : Option Value} {A B : Int32 → Prop} {P : Prop} (h0 : SR g L f (x0, wk, vs, cl, ru, va) s) (hE : Ext L f L2 f2) (h : (∃ v : Int32, r = some (.int 0) ∧ (B v ∧ Fr [] L f f2) ∧ A v) ∨ (r = some (.int 1) ∧ P ∧ Fr [] L f f2)) : SR g L2 f2 (x0, wk, vs, cl, ru, va) s ∧ Fr [] L f f2 := by
  rcases h with ⟨v, -, ⟨-, h1⟩, -⟩ | ⟨-, -, h1⟩
  · exact ⟨h0.still hE h1 (by decide), h1⟩
  · exact ⟨h0.still hE h1 (by decide), h1⟩

set_option maxHeartbeats 4000000 in
set_option maxRecDepth 100000 in
theorem lo_charge {Z : State → Prop} {p : Program} {l : Launch} {e : Env} {s : State} {m : MethodId} {below : List Frame} {meth : Method} {c : Code} {b Ln : Nat} {xs : Nat → Int32} (hlt : l.stackTraces = false) (C0 : lw_At p s m meth c b Ln xs) (hLn : Ln ≤ 3072) {dC : Nat → ClassId} {dI : Nat → Nat → Nat} {sa : Nat → Nat} (hev : ev sa (fun q : Nat => s.heap.size ≤ q) s s.heap) {x0 rdr tok tp ka sta vaa wk vs cl ru pl tvr tc rc m0 ou : Nat} {va tv : Nat → Nat} {co : ClassId} {g gm bm : Nat → Nat} (hK : va_K (dC, dI) vwCl (tyG g ++ [(co, .long)] ++ tyM gm) s) {L : List Nat} {f : Nat → va_E} {fo : Nat → Int64} {i : Nat → Int32} {a : Nat → Nat → Int32} {H : Heap} {locs : List Loc} {ls : Array Slot} {cells slots t : Nat} {ii : Int32} (hI : LI g ((x0, rdr, tok, tp, ka, sta, vaa), (wk, vs, cl, ru, va), (pl, tvr, tc, tv), rc) ((10000 * t : Nat) : Int) L f i a) (hP : va_P (dC, dI) vwCl ((va_pl L f ++ [(ou, .inl (co, 1, .inr (.inl fo)))]) ++ mw gm m0 bm i a) H) (hD : va_D (fun q : Nat => s.heap.size ≤ q) ((va_pl L f ++ [(ou, .inl (co, 1, .inr (.inl fo)))]) ++ mw gm m0 bm i a)) (hS : va_S (fun q : Nat => s.heap.size ≤ q) s.heap H locs) (hl : lv_has ls 7 [(4, .int ii), (3, .ref ou), (2, .ref m0), (1, .ref x0), (0, .ref b)]) (hii : ii = nI (6 * t)) (ht : 6 * t + 6 ≤ Ln) (hc : cells + 2 ≤ 601024) (hs : slots + 12 ≤ 7293034) (hk : ∀ (L2 : List Nat) (f2 : Nat → va_E) (fo2 : Nat → Int64) (i2 : Nat → Int32) (a2 : Nat → Nat → Int32) (H : Heap) (locs : List Loc) (ls : Array Slot), LI g ((x0, rdr, tok, tp, ka, sta, vaa), (wk, vs, cl, ru, va), (pl, tvr, tc, tv), rc) ((10000 * (t + 1) : Nat) : Int) L2 f2 i2 a2 → ((∀ j : Nat, j ≠ 0 → i2 j = (chG (xs (6 * t + 1)) (xs (6 * t + 2)) (i, a)).2.2.1 j) ∧ a2 = (chG (xs (6 * t + 1)) (xs (6 * t + 2)) (i, a)).2.2.2) → va_P (dC, dI) vwCl ((va_pl L2 f2 ++ [(ou, .inl (co, 1, .inr (.inl fo2)))]) ++ mw gm m0 bm i2 a2) H → va_D (fun q : Nat => s.heap.size ≤ q) ((va_pl L2 f2 ++ [(ou, .inl (co, 1, .inr (.inl fo2)))]) ++ mw gm m0 bm i2 a2) → va_S (fun q : Nat => s.heap.size ≤ q) s.heap H locs → lv_has ls 7 [(4, .int ii), (3, .ref ou), (2, .ref m0), (1, .ref x0), (0, .ref b)] → W p l e room_1 s m #[Value.ref b] below meth c H locs (cells + 2) (slots + 12) Z (F0 m 938 ls [])) : W p l e room_1 s m #[Value.ref b] below meth c H locs cells slots Z (F0 m 132 ls []) := by
  obtain ⟨hx, hb, hr, hml, hown, hts, hX, hbl, hlocks, hgv⟩ := id C0
  have hown : s.vm.findClass RL = some m.cls := hown
  have hA : ∀ q : Nat, s.heap.size ≤ q → (fun q : Nat => s.heap.size ≤ q) q := fun _ h => h
  have hbA : ¬ (fun q : Nat => s.heap.size ≤ q) b := Nat.not_le.mpr hbl
  obtain ⟨hT0, ⟨⟨hRF, tt, hCN, hag⟩, ⟨hSR, h7, hPL⟩, hTE⟩, hGI, ht2, hBI, hkp⟩ := id hI
  have hB9 : ((10000 * t : Nat) : Int) ≤ 9000000 := by omega
  refine lv_aload_n hx hb dL_law_132 rfl (lv_at hl 3 rfl) ?_
  refine lv_aload_n hx hb dL_law_133 rfl (lv_at hl 4 rfl) ?_
  refine lv_iload hx hb dL_law_134 (lv_at hl 0 rfl) ?_
  refine lv_iconst (v := 1) hx hb dL_law_136 (by decide) ?_
  refine lv_iadd hx hb dL_law_137 ?_
  refine lv_topi (fun z_1 ez_1 => ?_)
  refine va_sld hx hb hX hbl hbA hS (sc_in ez_1 hii (by decide : (1 : Int32) = nI 1) (by decide) ht hLn) dL_law_138 ?_
  refine lv_topi (fun z_2 ez_2 => ?_)
  refine lv_aload_n hx hb dL_law_139 rfl (lv_at hl 4 rfl) ?_
  refine lv_iload hx hb dL_law_140 (lv_at hl 0 rfl) ?_
  refine lv_iconst (v := 2) hx hb dL_law_142 (by decide) ?_
  refine lv_iadd hx hb dL_law_143 ?_
  refine lv_topi (fun z_3 ez_3 => ?_)
  refine va_sld hx hb hX hbl hbA hS (sc_in ez_3 hii (by decide : (2 : Int32) = nI 2) (by decide) ht hLn) dL_law_144 ?_
  refine lv_topi (fun z_4 ez_4 => ?_)
  refine lv_aload_n hx hb dL_law_145 rfl (lv_at hl 1 rfl) ?_
  refine NW_S (hh := [(0, 10, 13, 13)]) ⟨hx, hb, hml, hown, hts⟩ (wS_charge l dC dI sa g _ _ x0 ou co _ z_2 z_4 _ (hT0.sub [0] rfl) (fun sz => (t_X9_chargeS l dC dI sa hlt g _ _ va (i, a) x0 z_2 z_4 wk vs cl ru sz (hT0.sub [0, 7, 8, 9, 10] rfl) hSR.1.2.1 hSR.1.2.2.2.2.1 hSR.1.2.2.1 hSR.1.2.2.2.1 hSR ⟨hGI.1.1, hGI.1.2.1, hGI.1.2.2.1, Int.le_trans hGI.1.2.2.2 hB9⟩)) (fun _ _ _ h9 => h9.1) (fun _ _ _ h9 => h9.1.1)) (vx_cwSW 4 hts gL_law_L_charge rfl rfl rfl (by decide +kernel) ⟨Nat.le_of_ble_eq_true rfl, Nat.le_of_ble_eq_true rfl⟩) hP hD (hK.sub [0, 1, 2, 3, 4, 5, 6, 7, 8, 9, 10, 11] rfl) hS hA hev rfl hl.1 rfl (Nat.le_of_ble_eq_true rfl) dL_law_146 ⟨by show _ + 1 ≤ 601024; omega, by show _ + 6 ≤ 7293034; omega⟩ (fun r u H locs hw hP hD hS => ?_)
  obtain ⟨⟨L2, f2⟩, fo2⟩ := u
  obtain ⟨hW2, hE2, hw⟩ := hw
  have hE2 : Ext L f L2 f2 := hE2
  have hco : CO g L f L2 f2 (x0, wk, vs, cl, ru, va) (chG z_2 z_4 (i, a)) r (fo2 0) := co1 hSR hE2 (by decide) hw
  obtain ⟨z_5, rfl⟩ : ∃ z : Int32, r = some (.int z) := ⟨_, hco.1⟩
  have hP : va_P (dC, dI) vwCl ((va_pl L2 f2 ++ [(ou, .inl (co, 1, .inr (.inl fo2)))]) ++ mw gm m0 bm i a) _ := hP
  have hD : va_D _ ((va_pl L2 f2 ++ [(ou, .inl (co, 1, .inr (.inl fo2)))]) ++ mw gm m0 bm i a) := hD
  refine W.eq (g2 := F0 m 149 ls [.int z_5]) rfl ?_
  refine lv_istore (lv' := [(5, .int z_5), (4, .int ii), (3, .ref ou), (2, .ref m0), (1, .ref x0), (0, .ref b)]) hx hb dL_law_149 hl (by decide) rfl (fun ls hl => ?_)
  refine lv_aload_n hx hb dL_law_151 rfl (lv_at hl 3 rfl) ?_
  refine lv_aload_n hx hb dL_law_152 rfl (lv_at hl 5 rfl) ?_
  refine lv_iload hx hb dL_law_153 (lv_at hl 1 rfl) ?_
  refine lv_iconst (v := 1) hx hb dL_law_155 (by decide) ?_
  refine lv_iadd hx hb dL_law_156 ?_
  refine lv_topi (fun z_6 ez_6 => ?_)
  refine va_sld hx hb hX hbl hbA hS (sc_in ez_6 hii (by decide : (1 : Int32) = nI 1) (by decide) ht hLn) dL_law_157 ?_
  refine lv_topi (fun z_7 ez_7 => ?_)
  refine lv_aload_n hx hb dL_law_158 rfl (lv_at hl 5 rfl) ?_
  refine lv_iload hx hb dL_law_159 (lv_at hl 1 rfl) ?_
  refine lv_iconst (v := 2) hx hb dL_law_161 (by decide) ?_
  refine lv_iadd hx hb dL_law_162 ?_
  refine lv_topi (fun z_8 ez_8 => ?_)
  refine va_sld hx hb hX hbl hbA hS (sc_in ez_8 hii (by decide : (2 : Int32) = nI 2) (by decide) ht hLn) dL_law_163 ?_
  refine lv_topi (fun z_9 ez_9 => ?_)
  refine NV_V ⟨hx, hb, hml, hown, hts⟩ (m_X10_chargeE l dC dI sa gm m0 bm i a z_7 z_9 _ ) (cwV 2 hts gL_law_X10_charge rfl rfl rfl (by decide +kernel) ⟨Nat.le_of_ble_eq_true rfl, Nat.le_of_ble_eq_true rfl⟩) hP hD (hK.sub [12, 13, 14, 15, 16, 17, 18, 19, 20, 21, 22, 23, 24, 25, 26, 27, 28, 29, 30, 31, 32, 33, 34, 35, 36, 37, 38, 39, 40] rfl) hS hA hev rfl rfl rfl rfl hl.1 rfl (Nat.le_of_ble_eq_true rfl) dL_law_164 ⟨by show _ + 0 ≤ 601024; omega, by show _ + 0 ≤ 7293034; omega⟩ (fun r u H locs hw hP hD hS => ?_)
  obtain ⟨x0_10, x3_11, y4_12⟩ := u
  have hw : (∃ z : Int32, r = some (.int z)) ∧ (x0_10 = (chG z_7 z_9 (i, a)).1 ∧ ((chG z_7 z_9 (i, a)).1 = 0 → r = some (.int (chG z_7 z_9 (i, a)).2.1)) ∧ x3_11 = (chG z_7 z_9 (i, a)).2.2.1 3 ∧ y4_12 = (chG z_7 z_9 (i, a)).2.2.2 4) := hw
  obtain ⟨⟨z_13, rfl⟩, hwP⟩ := hw
  have hab0 : z_7 = z_2 := by rw [ez_7, ez_6, ez_2, ez_1]
  have hab1 : z_9 = z_4 := by rw [ez_9, ez_8, ez_4, ez_3]
  rw [hab0, hab1] at hwP
  obtain ⟨hm0, hm1, hn3, hn4⟩ := hwP
  have hX1 : ∀ j : Nat, j ≠ 0 → (va_up (va_up i 0 x0_10) 3 x3_11) j = (chG z_2 z_4 (i, a)).2.2.1 j := eqx_i fx_ch.1 (Eqx.up (by decide) (Eqx.up (by decide) Eqx.rf)) (by intro k hk; simp only [List.mem_cons, List.not_mem_nil, or_false] at hk; rcases hk with rfl <;> assumption)
  have hX2 : (va_up a 4 y4_12) = (chG z_2 z_4 (i, a)).2.2.2 := eqx_a fx_ch.2 (Eqx.up (by decide) Eqx.rf) (by intro k hk; simp only [List.mem_cons, List.not_mem_nil, or_false] at hk; rcases hk with rfl <;> assumption)
  obtain ⟨hth, hout, hI2⟩ := both_op (K := [3]) (KA_ := [4]) (i2 := (va_up (va_up i 0 x0_10) 3 x3_11)) (a2 := (va_up a 4 y4_12)) hI hW2 hE2 hco hGI.ch fx_ch hm0 hm1 (Eqx.up (by decide) (Eqx.up (by decide) Eqx.rf)) (Eqx.up (by decide) Eqx.rf) (by intro k hk; simp only [List.mem_cons, List.not_mem_nil, or_false] at hk; rcases hk with rfl <;> assumption) (by intro k hk; simp only [List.mem_cons, List.not_mem_nil, or_false] at hk; rcases hk with rfl <;> assumption) (by decide) (by decide)
  have hP : va_P (dC, dI) vwCl ((va_pl L2 f2 ++ [(ou, .inl (co, 1, .inr (.inl fo2)))]) ++ mw gm m0 bm (va_up (va_up i 0 x0_10) 3 x3_11) (va_up a 4 y4_12)) _ := hP
  have hD : va_D _ ((va_pl L2 f2 ++ [(ou, .inl (co, 1, .inr (.inl fo2)))]) ++ mw gm m0 bm (va_up (va_up i 0 x0_10) 3 x3_11) (va_up a 4 y4_12)) := hD
  refine W.eq (g2 := F0 m 167 ls [.int z_13]) rfl ?_
  refine lv_istore (lv' := [(6, .int z_13), (5, .int z_5), (4, .int ii), (3, .ref ou), (2, .ref m0), (1, .ref x0), (0, .ref b)]) hx hb dL_law_167 hl (by decide) rfl (fun ls hl => ?_)
  refine lv_goto (tgt := 938) hx hb dL_law_169 (by decide) ?_
  exact W.widen (by omega) (by omega) (hk L2 f2 fo2 (va_up (va_up i 0 x0_10) 3 x3_11) (va_up a 4 y4_12) _ _ _ (hI2.mo (by omega)) (by rw [← sc_at ez_2 ez_1 hii (by decide : (1 : Int32) = nI 1) (show 6 * t + 1 < 4000 by omega), ← sc_at ez_4 ez_3 hii (by decide : (2 : Int32) = nI 2) (show 6 * t + 2 < 4000 by omega)]; exact ⟨hX1, hX2⟩) hP hD hS (lv_sub hl [2, 3, 4, 5, 6] rfl))

set_option maxHeartbeats 4000000 in
set_option maxRecDepth 100000 in
theorem lo_feed {Z : State → Prop} {p : Program} {l : Launch} {e : Env} {s : State} {m : MethodId} {below : List Frame} {meth : Method} {c : Code} {b Ln : Nat} {xs : Nat → Int32} (hlt : l.stackTraces = false) (C0 : lw_At p s m meth c b Ln xs) (hLn : Ln ≤ 3072) {dC : Nat → ClassId} {dI : Nat → Nat → Nat} {sa : Nat → Nat} (hev : ev sa (fun q : Nat => s.heap.size ≤ q) s s.heap) {x0 rdr tok tp ka sta vaa wk vs cl ru pl tvr tc rc m0 ou : Nat} {va tv : Nat → Nat} {co : ClassId} {g gm bm : Nat → Nat} (hK : va_K (dC, dI) vwCl (tyG g ++ [(co, .long)] ++ tyM gm) s) {L : List Nat} {f : Nat → va_E} {fo : Nat → Int64} {i : Nat → Int32} {a : Nat → Nat → Int32} {H : Heap} {locs : List Loc} {ls : Array Slot} {cells slots t : Nat} {ii : Int32} (hI : LI g ((x0, rdr, tok, tp, ka, sta, vaa), (wk, vs, cl, ru, va), (pl, tvr, tc, tv), rc) ((10000 * t : Nat) : Int) L f i a) (hP : va_P (dC, dI) vwCl ((va_pl L f ++ [(ou, .inl (co, 1, .inr (.inl fo)))]) ++ mw gm m0 bm i a) H) (hD : va_D (fun q : Nat => s.heap.size ≤ q) ((va_pl L f ++ [(ou, .inl (co, 1, .inr (.inl fo)))]) ++ mw gm m0 bm i a)) (hS : va_S (fun q : Nat => s.heap.size ≤ q) s.heap H locs) (hl : lv_has ls 7 [(4, .int ii), (3, .ref ou), (2, .ref m0), (1, .ref x0), (0, .ref b)]) (hii : ii = nI (6 * t)) (ht : 6 * t + 6 ≤ Ln) (hc : cells + 2 ≤ 601024) (hs : slots + 12 ≤ 7293034) (hk : ∀ (L2 : List Nat) (f2 : Nat → va_E) (fo2 : Nat → Int64) (i2 : Nat → Int32) (a2 : Nat → Nat → Int32) (H : Heap) (locs : List Loc) (ls : Array Slot), LI g ((x0, rdr, tok, tp, ka, sta, vaa), (wk, vs, cl, ru, va), (pl, tvr, tc, tv), rc) ((10000 * (t + 1) : Nat) : Int) L2 f2 i2 a2 → ((∀ j : Nat, j ≠ 0 → i2 j = (fdS (xs (6 * t + 1)) (xs (6 * t + 2)) (i, a)).2.2.1 j) ∧ a2 = (fdS (xs (6 * t + 1)) (xs (6 * t + 2)) (i, a)).2.2.2) → va_P (dC, dI) vwCl ((va_pl L2 f2 ++ [(ou, .inl (co, 1, .inr (.inl fo2)))]) ++ mw gm m0 bm i2 a2) H → va_D (fun q : Nat => s.heap.size ≤ q) ((va_pl L2 f2 ++ [(ou, .inl (co, 1, .inr (.inl fo2)))]) ++ mw gm m0 bm i2 a2) → va_S (fun q : Nat => s.heap.size ≤ q) s.heap H locs → lv_has ls 7 [(4, .int ii), (3, .ref ou), (2, .ref m0), (1, .ref x0), (0, .ref b)] → W p l e room_1 s m #[Value.ref b] below meth c H locs (cells + 2) (slots + 12) Z (F0 m 938 ls [])) : W p l e room_1 s m #[Value.ref b] below meth c H locs cells slots Z (F0 m 172 ls []) := by
  obtain ⟨hx, hb, hr, hml, hown, hts, hX, hbl, hlocks, hgv⟩ := id C0
  have hown : s.vm.findClass RL = some m.cls := hown
  have hA : ∀ q : Nat, s.heap.size ≤ q → (fun q : Nat => s.heap.size ≤ q) q := fun _ h => h
  have hbA : ¬ (fun q : Nat => s.heap.size ≤ q) b := Nat.not_le.mpr hbl
  obtain ⟨hT0, ⟨⟨hRF, tt, hCN, hag⟩, ⟨hSR, h7, hPL⟩, hTE⟩, hGI, ht2, hBI, hkp⟩ := id hI
  have hB9 : ((10000 * t : Nat) : Int) ≤ 9000000 := by omega
  refine lv_aload_n hx hb dL_law_172 rfl (lv_at hl 3 rfl) ?_
  refine lv_aload_n hx hb dL_law_173 rfl (lv_at hl 4 rfl) ?_
  refine lv_iload hx hb dL_law_174 (lv_at hl 0 rfl) ?_
  refine lv_iconst (v := 1) hx hb dL_law_176 (by decide) ?_
  refine lv_iadd hx hb dL_law_177 ?_
  refine lv_topi (fun z_1 ez_1 => ?_)
  refine va_sld hx hb hX hbl hbA hS (sc_in ez_1 hii (by decide : (1 : Int32) = nI 1) (by decide) ht hLn) dL_law_178 ?_
  refine lv_topi (fun z_2 ez_2 => ?_)
  refine lv_aload_n hx hb dL_law_179 rfl (lv_at hl 4 rfl) ?_
  refine lv_iload hx hb dL_law_180 (lv_at hl 0 rfl) ?_
  refine lv_iconst (v := 2) hx hb dL_law_182 (by decide) ?_
  refine lv_iadd hx hb dL_law_183 ?_
  refine lv_topi (fun z_3 ez_3 => ?_)
  refine va_sld hx hb hX hbl hbA hS (sc_in ez_3 hii (by decide : (2 : Int32) = nI 2) (by decide) ht hLn) dL_law_184 ?_
  refine lv_topi (fun z_4 ez_4 => ?_)
  refine lv_aload_n hx hb dL_law_185 rfl (lv_at hl 1 rfl) ?_
  refine NW_S (hh := [(0, 10, 13, 13), (0, 10, 17, 18)]) ⟨hx, hb, hml, hown, hts⟩ (wS_feed l dC dI sa g _ _ x0 ou co _ z_2 z_4 _ (hT0.sub [0] rfl) (fun sz => (t_X9_feedS l dC dI sa hlt g _ _ va (i, a) x0 z_2 z_4 wk vs cl ru sz (hT0.sub [0, 7, 8, 9, 10] rfl) hSR.1.2.1 hSR.1.2.2.2.2.1 hSR.1.2.2.1 hSR.1.2.2.2.1 hSR ⟨hGI.1.1, hGI.1.2.1, hGI.1.2.2.1, Int.le_trans hGI.1.2.2.2 hB9⟩)) (fun _ _ _ h9 => h9.1) (fun _ _ _ h9 => h9.1.imp (fun q9 => q9.1) (fun q9 => q9.1))) (vx_cwSW 4 hts gL_law_L_feed rfl rfl rfl (by decide +kernel) ⟨Nat.le_of_ble_eq_true rfl, Nat.le_of_ble_eq_true rfl⟩) hP hD (hK.sub [0, 1, 2, 3, 4, 5, 6, 7, 8, 9, 10, 11] rfl) hS hA hev rfl hl.1 rfl (Nat.le_of_ble_eq_true rfl) dL_law_186 ⟨by show _ + 2 ≤ 601024; omega, by show _ + 12 ≤ 7293034; omega⟩ (fun r u H locs hw hP hD hS => ?_)
  obtain ⟨⟨L2, f2⟩, fo2⟩ := u
  obtain ⟨hW2, hE2, hw⟩ := hw
  have hE2 : Ext L f L2 f2 := hE2
  have hco : CO g L f L2 f2 (x0, wk, vs, cl, ru, va) (fdS z_2 z_4 (i, a)) r (fo2 0) := co2 hSR hE2 (by decide) (by decide) (by decide) hw
  obtain ⟨z_5, rfl⟩ : ∃ z : Int32, r = some (.int z) := ⟨_, hco.1⟩
  have hP : va_P (dC, dI) vwCl ((va_pl L2 f2 ++ [(ou, .inl (co, 1, .inr (.inl fo2)))]) ++ mw gm m0 bm i a) _ := hP
  have hD : va_D _ ((va_pl L2 f2 ++ [(ou, .inl (co, 1, .inr (.inl fo2)))]) ++ mw gm m0 bm i a) := hD
  refine W.eq (g2 := F0 m 189 ls [.int z_5]) rfl ?_
  refine lv_istore (lv' := [(5, .int z_5), (4, .int ii), (3, .ref ou), (2, .ref m0), (1, .ref x0), (0, .ref b)]) hx hb dL_law_189 hl (by decide) rfl (fun ls hl => ?_)
  refine lv_aload_n hx hb dL_law_191 rfl (lv_at hl 3 rfl) ?_
  refine lv_aload_n hx hb dL_law_192 rfl (lv_at hl 5 rfl) ?_
  refine lv_iload hx hb dL_law_193 (lv_at hl 1 rfl) ?_
  refine lv_iconst (v := 1) hx hb dL_law_195 (by decide) ?_
  refine lv_iadd hx hb dL_law_196 ?_
  refine lv_topi (fun z_6 ez_6 => ?_)
  refine va_sld hx hb hX hbl hbA hS (sc_in ez_6 hii (by decide : (1 : Int32) = nI 1) (by decide) ht hLn) dL_law_197 ?_
  refine lv_topi (fun z_7 ez_7 => ?_)
  refine lv_aload_n hx hb dL_law_198 rfl (lv_at hl 5 rfl) ?_
  refine lv_iload hx hb dL_law_199 (lv_at hl 1 rfl) ?_
  refine lv_iconst (v := 2) hx hb dL_law_201 (by decide) ?_
  refine lv_iadd hx hb dL_law_202 ?_
  refine lv_topi (fun z_8 ez_8 => ?_)
  refine va_sld hx hb hX hbl hbA hS (sc_in ez_8 hii (by decide : (2 : Int32) = nI 2) (by decide) ht hLn) dL_law_203 ?_
  refine lv_topi (fun z_9 ez_9 => ?_)
  refine NV_V ⟨hx, hb, hml, hown, hts⟩ (m_X10_feedE l dC dI sa gm m0 bm i a z_7 z_9 _ ) (cwV 2 hts gL_law_X10_feed rfl rfl rfl (by decide +kernel) ⟨Nat.le_of_ble_eq_true rfl, Nat.le_of_ble_eq_true rfl⟩) hP hD (hK.sub [12, 13, 14, 15, 16, 17, 18, 19, 20, 21, 22, 23, 24, 25, 26, 27, 28, 29, 30, 31, 32, 33, 34, 35, 36, 37, 38, 39, 40] rfl) hS hA hev rfl rfl rfl rfl hl.1 rfl (Nat.le_of_ble_eq_true rfl) dL_law_204 ⟨by show _ + 0 ≤ 601024; omega, by show _ + 0 ≤ 7293034; omega⟩ (fun r u H locs hw hP hD hS => ?_)
  obtain ⟨x0_10, y5_11, y7_12⟩ := u
  have hw : (∃ z : Int32, r = some (.int z)) ∧ (x0_10 = (fdS z_7 z_9 (i, a)).1 ∧ ((fdS z_7 z_9 (i, a)).1 = 0 → r = some (.int (fdS z_7 z_9 (i, a)).2.1)) ∧ y5_11 = (fdS z_7 z_9 (i, a)).2.2.2 5 ∧ y7_12 = (fdS z_7 z_9 (i, a)).2.2.2 7) := hw
  obtain ⟨⟨z_13, rfl⟩, hwP⟩ := hw
  have hab0 : z_7 = z_2 := by rw [ez_7, ez_6, ez_2, ez_1]
  have hab1 : z_9 = z_4 := by rw [ez_9, ez_8, ez_4, ez_3]
  rw [hab0, hab1] at hwP
  obtain ⟨hm0, hm1, hn5, hn7⟩ := hwP
  have hX1 : ∀ j : Nat, j ≠ 0 → (va_up i 0 x0_10) j = (fdS z_2 z_4 (i, a)).2.2.1 j := eqx_i fx_fd.1 (Eqx.up (by decide) Eqx.rf) (fun k hk => absurd hk (by simp))
  have hX2 : (va_up (va_up a 5 y5_11) 7 y7_12) = (fdS z_2 z_4 (i, a)).2.2.2 := eqx_a fx_fd.2 (Eqx.up (by decide) (Eqx.up (by decide) Eqx.rf)) (by intro k hk; simp only [List.mem_cons, List.not_mem_nil, or_false] at hk; rcases hk with rfl | rfl <;> assumption)
  obtain ⟨hth, hout, hI2⟩ := both_op (K := []) (KA_ := [5, 7]) (i2 := (va_up i 0 x0_10)) (a2 := (va_up (va_up a 5 y5_11) 7 y7_12)) hI hW2 hE2 hco hGI.fd fx_fd hm0 hm1 (Eqx.up (by decide) Eqx.rf) (Eqx.up (by decide) (Eqx.up (by decide) Eqx.rf)) (fun k hk => absurd hk (by simp)) (by intro k hk; simp only [List.mem_cons, List.not_mem_nil, or_false] at hk; rcases hk with rfl | rfl <;> assumption) (by decide) (by decide)
  have hP : va_P (dC, dI) vwCl ((va_pl L2 f2 ++ [(ou, .inl (co, 1, .inr (.inl fo2)))]) ++ mw gm m0 bm (va_up i 0 x0_10) (va_up (va_up a 5 y5_11) 7 y7_12)) _ := hP
  have hD : va_D _ ((va_pl L2 f2 ++ [(ou, .inl (co, 1, .inr (.inl fo2)))]) ++ mw gm m0 bm (va_up i 0 x0_10) (va_up (va_up a 5 y5_11) 7 y7_12)) := hD
  refine W.eq (g2 := F0 m 207 ls [.int z_13]) rfl ?_
  refine lv_istore (lv' := [(6, .int z_13), (5, .int z_5), (4, .int ii), (3, .ref ou), (2, .ref m0), (1, .ref x0), (0, .ref b)]) hx hb dL_law_207 hl (by decide) rfl (fun ls hl => ?_)
  refine lv_goto (tgt := 938) hx hb dL_law_209 (by decide) ?_
  exact W.widen (by omega) (by omega) (hk L2 f2 fo2 (va_up i 0 x0_10) (va_up (va_up a 5 y5_11) 7 y7_12) _ _ _ (hI2.mo (by omega)) (by rw [← sc_at ez_2 ez_1 hii (by decide : (1 : Int32) = nI 1) (show 6 * t + 1 < 4000 by omega), ← sc_at ez_4 ez_3 hii (by decide : (2 : Int32) = nI 2) (show 6 * t + 2 < 4000 by omega)]; exact ⟨hX1, hX2⟩) hP hD hS (lv_sub hl [2, 3, 4, 5, 6] rfl))

set_option maxHeartbeats 4000000 in
set_option maxRecDepth 100000 in
theorem lo_lime {Z : State → Prop} {p : Program} {l : Launch} {e : Env} {s : State} {m : MethodId} {below : List Frame} {meth : Method} {c : Code} {b Ln : Nat} {xs : Nat → Int32} (hlt : l.stackTraces = false) (C0 : lw_At p s m meth c b Ln xs) (hLn : Ln ≤ 3072) {dC : Nat → ClassId} {dI : Nat → Nat → Nat} {sa : Nat → Nat} (hev : ev sa (fun q : Nat => s.heap.size ≤ q) s s.heap) {x0 rdr tok tp ka sta vaa wk vs cl ru pl tvr tc rc m0 ou : Nat} {va tv : Nat → Nat} {co : ClassId} {g gm bm : Nat → Nat} (hK : va_K (dC, dI) vwCl (tyG g ++ [(co, .long)] ++ tyM gm) s) {L : List Nat} {f : Nat → va_E} {fo : Nat → Int64} {i : Nat → Int32} {a : Nat → Nat → Int32} {H : Heap} {locs : List Loc} {ls : Array Slot} {cells slots t : Nat} {ii : Int32} (hI : LI g ((x0, rdr, tok, tp, ka, sta, vaa), (wk, vs, cl, ru, va), (pl, tvr, tc, tv), rc) ((10000 * t : Nat) : Int) L f i a) (hP : va_P (dC, dI) vwCl ((va_pl L f ++ [(ou, .inl (co, 1, .inr (.inl fo)))]) ++ mw gm m0 bm i a) H) (hD : va_D (fun q : Nat => s.heap.size ≤ q) ((va_pl L f ++ [(ou, .inl (co, 1, .inr (.inl fo)))]) ++ mw gm m0 bm i a)) (hS : va_S (fun q : Nat => s.heap.size ≤ q) s.heap H locs) (hl : lv_has ls 7 [(4, .int ii), (3, .ref ou), (2, .ref m0), (1, .ref x0), (0, .ref b)]) (hii : ii = nI (6 * t)) (ht : 6 * t + 6 ≤ Ln) (hc : cells + 2 ≤ 601024) (hs : slots + 12 ≤ 7293034) (hk : ∀ (L2 : List Nat) (f2 : Nat → va_E) (fo2 : Nat → Int64) (i2 : Nat → Int32) (a2 : Nat → Nat → Int32) (H : Heap) (locs : List Loc) (ls : Array Slot), LI g ((x0, rdr, tok, tp, ka, sta, vaa), (wk, vs, cl, ru, va), (pl, tvr, tc, tv), rc) ((10000 * (t + 1) : Nat) : Int) L2 f2 i2 a2 → ((∀ j : Nat, j ≠ 0 → i2 j = (lmS (xs (6 * t + 1)) (i, a)).2.2.1 j) ∧ a2 = (lmS (xs (6 * t + 1)) (i, a)).2.2.2) → va_P (dC, dI) vwCl ((va_pl L2 f2 ++ [(ou, .inl (co, 1, .inr (.inl fo2)))]) ++ mw gm m0 bm i2 a2) H → va_D (fun q : Nat => s.heap.size ≤ q) ((va_pl L2 f2 ++ [(ou, .inl (co, 1, .inr (.inl fo2)))]) ++ mw gm m0 bm i2 a2) → va_S (fun q : Nat => s.heap.size ≤ q) s.heap H locs → lv_has ls 7 [(4, .int ii), (3, .ref ou), (2, .ref m0), (1, .ref x0), (0, .ref b)] → W p l e room_1 s m #[Value.ref b] below meth c H locs (cells + 2) (slots + 12) Z (F0 m 938 ls [])) : W p l e room_1 s m #[Value.ref b] below meth c H locs cells slots Z (F0 m 212 ls []) := by
  obtain ⟨hx, hb, hr, hml, hown, hts, hX, hbl, hlocks, hgv⟩ := id C0
  have hown : s.vm.findClass RL = some m.cls := hown
  have hA : ∀ q : Nat, s.heap.size ≤ q → (fun q : Nat => s.heap.size ≤ q) q := fun _ h => h
  have hbA : ¬ (fun q : Nat => s.heap.size ≤ q) b := Nat.not_le.mpr hbl
  obtain ⟨hT0, ⟨⟨hRF, tt, hCN, hag⟩, ⟨hSR, h7, hPL⟩, hTE⟩, hGI, ht2, hBI, hkp⟩ := id hI
  have hB9 : ((10000 * t : Nat) : Int) ≤ 9000000 := by omega
  refine lv_aload_n hx hb dL_law_212 rfl (lv_at hl 3 rfl) ?_
  refine lv_aload_n hx hb dL_law_213 rfl (lv_at hl 4 rfl) ?_
  refine lv_iload hx hb dL_law_214 (lv_at hl 0 rfl) ?_
  refine lv_iconst (v := 1) hx hb dL_law_216 (by decide) ?_
  refine lv_iadd hx hb dL_law_217 ?_
  refine lv_topi (fun z_1 ez_1 => ?_)
  refine va_sld hx hb hX hbl hbA hS (sc_in ez_1 hii (by decide : (1 : Int32) = nI 1) (by decide) ht hLn) dL_law_218 ?_
  refine lv_topi (fun z_2 ez_2 => ?_)
  refine lv_aload_n hx hb dL_law_219 rfl (lv_at hl 1 rfl) ?_
  refine NW_S (hh := [(0, 9, 12, 13)]) ⟨hx, hb, hml, hown, hts⟩ (wS_lime l dC dI sa g _ _ x0 ou co _ z_2 _ (hT0.sub [0] rfl) (fun sz => (t_X9_limeS l dC dI sa hlt g _ _ va (i, a) x0 z_2 wk vs cl ru sz (hT0.sub [0, 7, 8, 9, 10] rfl) hSR.1.2.1 hSR.1.2.2.2.2.1 hSR.1.2.2.1 hSR.1.2.2.2.1 hSR ⟨hGI.1.1, hGI.1.2.1, hGI.1.2.2.1, Int.le_trans hGI.1.2.2.2 hB9⟩)) (fun _ _ _ h9 => h9.1) (fun _ _ _ h9 => h9.1.1)) (vx_cwSW 3 hts gL_law_L_lime rfl rfl rfl (by decide +kernel) ⟨Nat.le_of_ble_eq_true rfl, Nat.le_of_ble_eq_true rfl⟩) hP hD (hK.sub [0, 1, 2, 3, 4, 5, 6, 7, 8, 9, 10, 11] rfl) hS hA hev rfl hl.1 rfl (Nat.le_of_ble_eq_true rfl) dL_law_220 ⟨by show _ + 1 ≤ 601024; omega, by show _ + 6 ≤ 7293034; omega⟩ (fun r u H locs hw hP hD hS => ?_)
  obtain ⟨⟨L2, f2⟩, fo2⟩ := u
  obtain ⟨hW2, hE2, hw⟩ := hw
  have hE2 : Ext L f L2 f2 := hE2
  have hco : CO g L f L2 f2 (x0, wk, vs, cl, ru, va) (lmS z_2 (i, a)) r (fo2 0) := co1 hSR hE2 (by decide) hw
  obtain ⟨z_3, rfl⟩ : ∃ z : Int32, r = some (.int z) := ⟨_, hco.1⟩
  have hP : va_P (dC, dI) vwCl ((va_pl L2 f2 ++ [(ou, .inl (co, 1, .inr (.inl fo2)))]) ++ mw gm m0 bm i a) _ := hP
  have hD : va_D _ ((va_pl L2 f2 ++ [(ou, .inl (co, 1, .inr (.inl fo2)))]) ++ mw gm m0 bm i a) := hD
  refine W.eq (g2 := F0 m 223 ls [.int z_3]) rfl ?_
  refine lv_istore (lv' := [(5, .int z_3), (4, .int ii), (3, .ref ou), (2, .ref m0), (1, .ref x0), (0, .ref b)]) hx hb dL_law_223 hl (by decide) rfl (fun ls hl => ?_)
  refine lv_aload_n hx hb dL_law_225 rfl (lv_at hl 3 rfl) ?_
  refine lv_aload_n hx hb dL_law_226 rfl (lv_at hl 5 rfl) ?_
  refine lv_iload hx hb dL_law_227 (lv_at hl 1 rfl) ?_
  refine lv_iconst (v := 1) hx hb dL_law_229 (by decide) ?_
  refine lv_iadd hx hb dL_law_230 ?_
  refine lv_topi (fun z_4 ez_4 => ?_)
  refine va_sld hx hb hX hbl hbA hS (sc_in ez_4 hii (by decide : (1 : Int32) = nI 1) (by decide) ht hLn) dL_law_231 ?_
  refine lv_topi (fun z_5 ez_5 => ?_)
  refine NV_V ⟨hx, hb, hml, hown, hts⟩ (m_X10_limeE l dC dI sa gm m0 bm i a z_5 _ ) (cwV 1 hts gL_law_X10_lime rfl rfl rfl (by decide +kernel) ⟨Nat.le_of_ble_eq_true rfl, Nat.le_of_ble_eq_true rfl⟩) hP hD (hK.sub [12, 13, 14, 15, 16, 17, 18, 19, 20, 21, 22, 23, 24, 25, 26, 27, 28, 29, 30, 31, 32, 33, 34, 35, 36, 37, 38, 39, 40] rfl) hS hA hev rfl rfl rfl rfl hl.1 rfl (Nat.le_of_ble_eq_true rfl) dL_law_232 ⟨by show _ + 0 ≤ 601024; omega, by show _ + 0 ≤ 7293034; omega⟩ (fun r u H locs hw hP hD hS => ?_)
  obtain ⟨x0_6, y5_7, y6_8, y7_9⟩ := u
  have hw : (∃ z : Int32, r = some (.int z)) ∧ (x0_6 = (lmS z_5 (i, a)).1 ∧ ((lmS z_5 (i, a)).1 = 0 → r = some (.int (lmS z_5 (i, a)).2.1)) ∧ y5_7 = (lmS z_5 (i, a)).2.2.2 5 ∧ y6_8 = (lmS z_5 (i, a)).2.2.2 6 ∧ y7_9 = (lmS z_5 (i, a)).2.2.2 7) := hw
  obtain ⟨⟨z_10, rfl⟩, hwP⟩ := hw
  have hab0 : z_5 = z_2 := by rw [ez_5, ez_4, ez_2, ez_1]
  rw [hab0] at hwP
  obtain ⟨hm0, hm1, hn5, hn6, hn7⟩ := hwP
  have hX1 : ∀ j : Nat, j ≠ 0 → (va_up i 0 x0_6) j = (lmS z_2 (i, a)).2.2.1 j := eqx_i fx_lm.1 (Eqx.up (by decide) Eqx.rf) (fun k hk => absurd hk (by simp))
  have hX2 : (va_up (va_up (va_up a 5 y5_7) 6 y6_8) 7 y7_9) = (lmS z_2 (i, a)).2.2.2 := eqx_a fx_lm.2 (Eqx.up (by decide) (Eqx.up (by decide) (Eqx.up (by decide) Eqx.rf))) (by intro k hk; simp only [List.mem_cons, List.not_mem_nil, or_false] at hk; rcases hk with rfl | rfl | rfl <;> assumption)
  obtain ⟨hth, hout, hI2⟩ := both_op (K := []) (KA_ := [5, 6, 7]) (i2 := (va_up i 0 x0_6)) (a2 := (va_up (va_up (va_up a 5 y5_7) 6 y6_8) 7 y7_9)) hI hW2 hE2 hco hGI.lm fx_lm hm0 hm1 (Eqx.up (by decide) Eqx.rf) (Eqx.up (by decide) (Eqx.up (by decide) (Eqx.up (by decide) Eqx.rf))) (fun k hk => absurd hk (by simp)) (by intro k hk; simp only [List.mem_cons, List.not_mem_nil, or_false] at hk; rcases hk with rfl | rfl | rfl <;> assumption) (by decide) (by decide)
  have hP : va_P (dC, dI) vwCl ((va_pl L2 f2 ++ [(ou, .inl (co, 1, .inr (.inl fo2)))]) ++ mw gm m0 bm (va_up i 0 x0_6) (va_up (va_up (va_up a 5 y5_7) 6 y6_8) 7 y7_9)) _ := hP
  have hD : va_D _ ((va_pl L2 f2 ++ [(ou, .inl (co, 1, .inr (.inl fo2)))]) ++ mw gm m0 bm (va_up i 0 x0_6) (va_up (va_up (va_up a 5 y5_7) 6 y6_8) 7 y7_9)) := hD
  refine W.eq (g2 := F0 m 235 ls [.int z_10]) rfl ?_
  refine lv_istore (lv' := [(6, .int z_10), (5, .int z_3), (4, .int ii), (3, .ref ou), (2, .ref m0), (1, .ref x0), (0, .ref b)]) hx hb dL_law_235 hl (by decide) rfl (fun ls hl => ?_)
  refine lv_goto (tgt := 938) hx hb dL_law_237 (by decide) ?_
  exact W.widen (by omega) (by omega) (hk L2 f2 fo2 (va_up i 0 x0_6) (va_up (va_up (va_up a 5 y5_7) 6 y6_8) 7 y7_9) _ _ _ (hI2.mo (by omega)) (by rw [← sc_at ez_2 ez_1 hii (by decide : (1 : Int32) = nI 1) (show 6 * t + 1 < 4000 by omega)]; exact ⟨hX1, hX2⟩) hP hD hS (lv_sub hl [2, 3, 4, 5, 6] rfl))

set_option maxHeartbeats 4000000 in
set_option maxRecDepth 100000 in
theorem lo_treat {Z : State → Prop} {p : Program} {l : Launch} {e : Env} {s : State} {m : MethodId} {below : List Frame} {meth : Method} {c : Code} {b Ln : Nat} {xs : Nat → Int32} (hlt : l.stackTraces = false) (C0 : lw_At p s m meth c b Ln xs) (hLn : Ln ≤ 3072) {dC : Nat → ClassId} {dI : Nat → Nat → Nat} {sa : Nat → Nat} (hev : ev sa (fun q : Nat => s.heap.size ≤ q) s s.heap) {x0 rdr tok tp ka sta vaa wk vs cl ru pl tvr tc rc m0 ou : Nat} {va tv : Nat → Nat} {co : ClassId} {g gm bm : Nat → Nat} (hK : va_K (dC, dI) vwCl (tyG g ++ [(co, .long)] ++ tyM gm) s) {L : List Nat} {f : Nat → va_E} {fo : Nat → Int64} {i : Nat → Int32} {a : Nat → Nat → Int32} {H : Heap} {locs : List Loc} {ls : Array Slot} {cells slots t : Nat} {ii : Int32} (hI : LI g ((x0, rdr, tok, tp, ka, sta, vaa), (wk, vs, cl, ru, va), (pl, tvr, tc, tv), rc) ((10000 * t : Nat) : Int) L f i a) (hP : va_P (dC, dI) vwCl ((va_pl L f ++ [(ou, .inl (co, 1, .inr (.inl fo)))]) ++ mw gm m0 bm i a) H) (hD : va_D (fun q : Nat => s.heap.size ≤ q) ((va_pl L f ++ [(ou, .inl (co, 1, .inr (.inl fo)))]) ++ mw gm m0 bm i a)) (hS : va_S (fun q : Nat => s.heap.size ≤ q) s.heap H locs) (hl : lv_has ls 7 [(4, .int ii), (3, .ref ou), (2, .ref m0), (1, .ref x0), (0, .ref b)]) (hii : ii = nI (6 * t)) (ht : 6 * t + 6 ≤ Ln) (hc : cells + 2 ≤ 601024) (hs : slots + 12 ≤ 7293034) (hk : ∀ (L2 : List Nat) (f2 : Nat → va_E) (fo2 : Nat → Int64) (i2 : Nat → Int32) (a2 : Nat → Nat → Int32) (H : Heap) (locs : List Loc) (ls : Array Slot), LI g ((x0, rdr, tok, tp, ka, sta, vaa), (wk, vs, cl, ru, va), (pl, tvr, tc, tv), rc) ((10000 * (t + 1) : Nat) : Int) L2 f2 i2 a2 → ((∀ j : Nat, j ≠ 0 → i2 j = (trS (xs (6 * t + 1)) (xs (6 * t + 2)) (i, a)).2.2.1 j) ∧ a2 = (trS (xs (6 * t + 1)) (xs (6 * t + 2)) (i, a)).2.2.2) → va_P (dC, dI) vwCl ((va_pl L2 f2 ++ [(ou, .inl (co, 1, .inr (.inl fo2)))]) ++ mw gm m0 bm i2 a2) H → va_D (fun q : Nat => s.heap.size ≤ q) ((va_pl L2 f2 ++ [(ou, .inl (co, 1, .inr (.inl fo2)))]) ++ mw gm m0 bm i2 a2) → va_S (fun q : Nat => s.heap.size ≤ q) s.heap H locs → lv_has ls 7 [(4, .int ii), (3, .ref ou), (2, .ref m0), (1, .ref x0), (0, .ref b)] → W p l e room_1 s m #[Value.ref b] below meth c H locs (cells + 2) (slots + 12) Z (F0 m 938 ls [])) : W p l e room_1 s m #[Value.ref b] below meth c H locs cells slots Z (F0 m 345 ls []) := by
  obtain ⟨hx, hb, hr, hml, hown, hts, hX, hbl, hlocks, hgv⟩ := id C0
  have hown : s.vm.findClass RL = some m.cls := hown
  have hA : ∀ q : Nat, s.heap.size ≤ q → (fun q : Nat => s.heap.size ≤ q) q := fun _ h => h
  have hbA : ¬ (fun q : Nat => s.heap.size ≤ q) b := Nat.not_le.mpr hbl
  obtain ⟨hT0, ⟨⟨hRF, tt, hCN, hag⟩, ⟨hSR, h7, hPL⟩, hTE⟩, hGI, ht2, hBI, hkp⟩ := id hI
  have hB9 : ((10000 * t : Nat) : Int) ≤ 9000000 := by omega
  refine lv_aload_n hx hb dL_law_345 rfl (lv_at hl 3 rfl) ?_
  refine lv_aload_n hx hb dL_law_346 rfl (lv_at hl 4 rfl) ?_
  refine lv_iload hx hb dL_law_347 (lv_at hl 0 rfl) ?_
  refine lv_iconst (v := 1) hx hb dL_law_349 (by decide) ?_
  refine lv_iadd hx hb dL_law_350 ?_
  refine lv_topi (fun z_1 ez_1 => ?_)
  refine va_sld hx hb hX hbl hbA hS (sc_in ez_1 hii (by decide : (1 : Int32) = nI 1) (by decide) ht hLn) dL_law_351 ?_
  refine lv_topi (fun z_2 ez_2 => ?_)
  refine lv_aload_n hx hb dL_law_352 rfl (lv_at hl 4 rfl) ?_
  refine lv_iload hx hb dL_law_353 (lv_at hl 0 rfl) ?_
  refine lv_iconst (v := 2) hx hb dL_law_355 (by decide) ?_
  refine lv_iadd hx hb dL_law_356 ?_
  refine lv_topi (fun z_3 ez_3 => ?_)
  refine va_sld hx hb hX hbl hbA hS (sc_in ez_3 hii (by decide : (2 : Int32) = nI 2) (by decide) ht hLn) dL_law_357 ?_
  refine lv_topi (fun z_4 ez_4 => ?_)
  refine lv_aload_n hx hb dL_law_358 rfl (lv_at hl 1 rfl) ?_
  refine NW_S (hh := [(0, 10, 13, 13), (0, 10, 17, 18)]) ⟨hx, hb, hml, hown, hts⟩ (wS_treat l dC dI sa g _ _ x0 ou co _ z_2 z_4 _ (hT0.sub [0] rfl) (fun sz => (t_X9_treatS l dC dI sa hlt g _ _ va (i, a) x0 z_2 z_4 wk vs cl ru sz (hT0.sub [0, 7, 8, 9, 10] rfl) hSR.1.2.1 hSR.1.2.2.2.2.1 hSR.1.2.2.1 hSR.1.2.2.2.1 hSR ⟨hGI.1.1, hGI.1.2.1, hGI.1.2.2.1, Int.le_trans hGI.1.2.2.2 hB9⟩)) (fun _ _ _ h9 => h9.1) (fun _ _ _ h9 => h9.1.imp (fun q9 => q9.1) (fun q9 => q9.1))) (vx_cwSW 4 hts gL_law_L_treat rfl rfl rfl (by decide +kernel) ⟨Nat.le_of_ble_eq_true rfl, Nat.le_of_ble_eq_true rfl⟩) hP hD (hK.sub [0, 1, 2, 3, 4, 5, 6, 7, 8, 9, 10, 11] rfl) hS hA hev rfl hl.1 rfl (Nat.le_of_ble_eq_true rfl) dL_law_359 ⟨by show _ + 2 ≤ 601024; omega, by show _ + 12 ≤ 7293034; omega⟩ (fun r u H locs hw hP hD hS => ?_)
  obtain ⟨⟨L2, f2⟩, fo2⟩ := u
  obtain ⟨hW2, hE2, hw⟩ := hw
  have hE2 : Ext L f L2 f2 := hE2
  have hco : CO g L f L2 f2 (x0, wk, vs, cl, ru, va) (trS z_2 z_4 (i, a)) r (fo2 0) := co2 hSR hE2 (by decide) (by decide) (by decide) hw
  obtain ⟨z_5, rfl⟩ : ∃ z : Int32, r = some (.int z) := ⟨_, hco.1⟩
  have hP : va_P (dC, dI) vwCl ((va_pl L2 f2 ++ [(ou, .inl (co, 1, .inr (.inl fo2)))]) ++ mw gm m0 bm i a) _ := hP
  have hD : va_D _ ((va_pl L2 f2 ++ [(ou, .inl (co, 1, .inr (.inl fo2)))]) ++ mw gm m0 bm i a) := hD
  refine W.eq (g2 := F0 m 362 ls [.int z_5]) rfl ?_
  refine lv_istore (lv' := [(5, .int z_5), (4, .int ii), (3, .ref ou), (2, .ref m0), (1, .ref x0), (0, .ref b)]) hx hb dL_law_362 hl (by decide) rfl (fun ls hl => ?_)
  refine lv_aload_n hx hb dL_law_364 rfl (lv_at hl 3 rfl) ?_
  refine lv_aload_n hx hb dL_law_365 rfl (lv_at hl 5 rfl) ?_
  refine lv_iload hx hb dL_law_366 (lv_at hl 1 rfl) ?_
  refine lv_iconst (v := 1) hx hb dL_law_368 (by decide) ?_
  refine lv_iadd hx hb dL_law_369 ?_
  refine lv_topi (fun z_6 ez_6 => ?_)
  refine va_sld hx hb hX hbl hbA hS (sc_in ez_6 hii (by decide : (1 : Int32) = nI 1) (by decide) ht hLn) dL_law_370 ?_
  refine lv_topi (fun z_7 ez_7 => ?_)
  refine lv_aload_n hx hb dL_law_371 rfl (lv_at hl 5 rfl) ?_
  refine lv_iload hx hb dL_law_372 (lv_at hl 1 rfl) ?_
  refine lv_iconst (v := 2) hx hb dL_law_374 (by decide) ?_
  refine lv_iadd hx hb dL_law_375 ?_
  refine lv_topi (fun z_8 ez_8 => ?_)
  refine va_sld hx hb hX hbl hbA hS (sc_in ez_8 hii (by decide : (2 : Int32) = nI 2) (by decide) ht hLn) dL_law_376 ?_
  refine lv_topi (fun z_9 ez_9 => ?_)
  refine NV_V ⟨hx, hb, hml, hown, hts⟩ (m_X10_treatE l dC dI sa gm m0 bm i a z_7 z_9 _ hGI.1.2.1) (cwV 2 hts gL_law_X10_treat rfl rfl rfl (by decide +kernel) ⟨Nat.le_of_ble_eq_true rfl, Nat.le_of_ble_eq_true rfl⟩) hP hD (hK.sub [12, 13, 14, 15, 16, 17, 18, 19, 20, 21, 22, 23, 24, 25, 26, 27, 28, 29, 30, 31, 32, 33, 34, 35, 36, 37, 38, 39, 40] rfl) hS hA hev rfl rfl rfl rfl hl.1 rfl (Nat.le_of_ble_eq_true rfl) dL_law_377 ⟨by show _ + 0 ≤ 601024; omega, by show _ + 0 ≤ 7293034; omega⟩ (fun r u H locs hw hP hD hS => ?_)
  obtain ⟨x0_10, x2_11, y14_12, y15_13, y16_14⟩ := u
  have hw : (∃ z : Int32, r = some (.int z)) ∧ (x0_10 = (trS z_7 z_9 (i, a)).1 ∧ ((trS z_7 z_9 (i, a)).1 = 0 → r = some (.int (trS z_7 z_9 (i, a)).2.1)) ∧ x2_11 = (trS z_7 z_9 (i, a)).2.2.1 2 ∧ y14_12 = (trS z_7 z_9 (i, a)).2.2.2 14 ∧ y15_13 = (trS z_7 z_9 (i, a)).2.2.2 15 ∧ y16_14 = (trS z_7 z_9 (i, a)).2.2.2 16) := hw
  obtain ⟨⟨z_15, rfl⟩, hwP⟩ := hw
  have hab0 : z_7 = z_2 := by rw [ez_7, ez_6, ez_2, ez_1]
  have hab1 : z_9 = z_4 := by rw [ez_9, ez_8, ez_4, ez_3]
  rw [hab0, hab1] at hwP
  obtain ⟨hm0, hm1, hn2, hn14, hn15, hn16⟩ := hwP
  have hX1 : ∀ j : Nat, j ≠ 0 → (va_up (va_up i 0 x0_10) 2 x2_11) j = (trS z_2 z_4 (i, a)).2.2.1 j := eqx_i fx_tr.1 (Eqx.up (by decide) (Eqx.up (by decide) Eqx.rf)) (by intro k hk; simp only [List.mem_cons, List.not_mem_nil, or_false] at hk; rcases hk with rfl <;> assumption)
  have hX2 : (va_up (va_up (va_up a 14 y14_12) 15 y15_13) 16 y16_14) = (trS z_2 z_4 (i, a)).2.2.2 := eqx_a fx_tr.2 (Eqx.up (by decide) (Eqx.up (by decide) (Eqx.up (by decide) Eqx.rf))) (by intro k hk; simp only [List.mem_cons, List.not_mem_nil, or_false] at hk; rcases hk with rfl | rfl | rfl <;> assumption)
  obtain ⟨hth, hout, hI2⟩ := both_op (K := [2]) (KA_ := [14, 15, 16]) (i2 := (va_up (va_up i 0 x0_10) 2 x2_11)) (a2 := (va_up (va_up (va_up a 14 y14_12) 15 y15_13) 16 y16_14)) hI hW2 hE2 hco hGI.tr fx_tr hm0 hm1 (Eqx.up (by decide) (Eqx.up (by decide) Eqx.rf)) (Eqx.up (by decide) (Eqx.up (by decide) (Eqx.up (by decide) Eqx.rf))) (by intro k hk; simp only [List.mem_cons, List.not_mem_nil, or_false] at hk; rcases hk with rfl <;> assumption) (by intro k hk; simp only [List.mem_cons, List.not_mem_nil, or_false] at hk; rcases hk with rfl | rfl | rfl <;> assumption) (by decide) (by decide)
  have hP : va_P (dC, dI) vwCl ((va_pl L2 f2 ++ [(ou, .inl (co, 1, .inr (.inl fo2)))]) ++ mw gm m0 bm (va_up (va_up i 0 x0_10) 2 x2_11) (va_up (va_up (va_up a 14 y14_12) 15 y15_13) 16 y16_14)) _ := hP
  have hD : va_D _ ((va_pl L2 f2 ++ [(ou, .inl (co, 1, .inr (.inl fo2)))]) ++ mw gm m0 bm (va_up (va_up i 0 x0_10) 2 x2_11) (va_up (va_up (va_up a 14 y14_12) 15 y15_13) 16 y16_14)) := hD
  refine W.eq (g2 := F0 m 380 ls [.int z_15]) rfl ?_
  refine lv_istore (lv' := [(6, .int z_15), (5, .int z_5), (4, .int ii), (3, .ref ou), (2, .ref m0), (1, .ref x0), (0, .ref b)]) hx hb dL_law_380 hl (by decide) rfl (fun ls hl => ?_)
  refine lv_goto (tgt := 938) hx hb dL_law_382 (by decide) ?_
  exact W.widen (by omega) (by omega) (hk L2 f2 fo2 (va_up (va_up i 0 x0_10) 2 x2_11) (va_up (va_up (va_up a 14 y14_12) 15 y15_13) 16 y16_14) _ _ _ (hI2.mo (by omega)) (by rw [← sc_at ez_2 ez_1 hii (by decide : (1 : Int32) = nI 1) (show 6 * t + 1 < 4000 by omega), ← sc_at ez_4 ez_3 hii (by decide : (2 : Int32) = nI 2) (show 6 * t + 2 < 4000 by omega)]; exact ⟨hX1, hX2⟩) hP hD hS (lv_sub hl [2, 3, 4, 5, 6] rfl))

set_option maxHeartbeats 4000000 in
set_option maxRecDepth 100000 in
theorem lo_cloth {Z : State → Prop} {p : Program} {l : Launch} {e : Env} {s : State} {m : MethodId} {below : List Frame} {meth : Method} {c : Code} {b Ln : Nat} {xs : Nat → Int32} (hlt : l.stackTraces = false) (C0 : lw_At p s m meth c b Ln xs) (hLn : Ln ≤ 3072) {dC : Nat → ClassId} {dI : Nat → Nat → Nat} {sa : Nat → Nat} (hev : ev sa (fun q : Nat => s.heap.size ≤ q) s s.heap) {x0 rdr tok tp ka sta vaa wk vs cl ru pl tvr tc rc m0 ou : Nat} {va tv : Nat → Nat} {co : ClassId} {g gm bm : Nat → Nat} (hK : va_K (dC, dI) vwCl (tyG g ++ [(co, .long)] ++ tyM gm) s) {L : List Nat} {f : Nat → va_E} {fo : Nat → Int64} {i : Nat → Int32} {a : Nat → Nat → Int32} {H : Heap} {locs : List Loc} {ls : Array Slot} {cells slots t : Nat} {ii : Int32} (hI : LI g ((x0, rdr, tok, tp, ka, sta, vaa), (wk, vs, cl, ru, va), (pl, tvr, tc, tv), rc) ((10000 * t : Nat) : Int) L f i a) (hP : va_P (dC, dI) vwCl ((va_pl L f ++ [(ou, .inl (co, 1, .inr (.inl fo)))]) ++ mw gm m0 bm i a) H) (hD : va_D (fun q : Nat => s.heap.size ≤ q) ((va_pl L f ++ [(ou, .inl (co, 1, .inr (.inl fo)))]) ++ mw gm m0 bm i a)) (hS : va_S (fun q : Nat => s.heap.size ≤ q) s.heap H locs) (hl : lv_has ls 7 [(4, .int ii), (3, .ref ou), (2, .ref m0), (1, .ref x0), (0, .ref b)]) (hii : ii = nI (6 * t)) (ht : 6 * t + 6 ≤ Ln) (hc : cells + 2 ≤ 601024) (hs : slots + 12 ≤ 7293034) (hk : ∀ (L2 : List Nat) (f2 : Nat → va_E) (fo2 : Nat → Int64) (i2 : Nat → Int32) (a2 : Nat → Nat → Int32) (H : Heap) (locs : List Loc) (ls : Array Slot), LI g ((x0, rdr, tok, tp, ka, sta, vaa), (wk, vs, cl, ru, va), (pl, tvr, tc, tv), rc) ((10000 * (t + 1) : Nat) : Int) L2 f2 i2 a2 → ((∀ j : Nat, j ≠ 0 → i2 j = (clS (xs (6 * t + 1)) (i, a)).2.2.1 j) ∧ a2 = (clS (xs (6 * t + 1)) (i, a)).2.2.2) → va_P (dC, dI) vwCl ((va_pl L2 f2 ++ [(ou, .inl (co, 1, .inr (.inl fo2)))]) ++ mw gm m0 bm i2 a2) H → va_D (fun q : Nat => s.heap.size ≤ q) ((va_pl L2 f2 ++ [(ou, .inl (co, 1, .inr (.inl fo2)))]) ++ mw gm m0 bm i2 a2) → va_S (fun q : Nat => s.heap.size ≤ q) s.heap H locs → lv_has ls 7 [(4, .int ii), (3, .ref ou), (2, .ref m0), (1, .ref x0), (0, .ref b)] → W p l e room_1 s m #[Value.ref b] below meth c H locs (cells + 2) (slots + 12) Z (F0 m 938 ls [])) : W p l e room_1 s m #[Value.ref b] below meth c H locs cells slots Z (F0 m 268 ls []) := by
  obtain ⟨hx, hb, hr, hml, hown, hts, hX, hbl, hlocks, hgv⟩ := id C0
  have hown : s.vm.findClass RL = some m.cls := hown
  have hA : ∀ q : Nat, s.heap.size ≤ q → (fun q : Nat => s.heap.size ≤ q) q := fun _ h => h
  have hbA : ¬ (fun q : Nat => s.heap.size ≤ q) b := Nat.not_le.mpr hbl
  obtain ⟨hT0, ⟨⟨hRF, tt, hCN, hag⟩, ⟨hSR, h7, hPL⟩, hTE⟩, hGI, ht2, hBI, hkp⟩ := id hI
  have hB9 : ((10000 * t : Nat) : Int) ≤ 9000000 := by omega
  refine lv_aload_n hx hb dL_law_268 rfl (lv_at hl 3 rfl) ?_
  refine lv_aload_n hx hb dL_law_269 rfl (lv_at hl 4 rfl) ?_
  refine lv_iload hx hb dL_law_270 (lv_at hl 0 rfl) ?_
  refine lv_iconst (v := 1) hx hb dL_law_272 (by decide) ?_
  refine lv_iadd hx hb dL_law_273 ?_
  refine lv_topi (fun z_1 ez_1 => ?_)
  refine va_sld hx hb hX hbl hbA hS (sc_in ez_1 hii (by decide : (1 : Int32) = nI 1) (by decide) ht hLn) dL_law_274 ?_
  refine lv_topi (fun z_2 ez_2 => ?_)
  rw [List.append_assoc] at hP hD
  refine NU_V ⟨hx, hb, hml, hown, hts⟩ (t_X9_clothT l dC dI sa hlt g _ _ va (i, a) x0 z_2 wk vs cl ru _ (hT0.sub [0, 7, 8, 9, 10] rfl) hSR.1.2.1 hSR.1.2.2.2.2.1 hSR.1.2.2.1 hSR.1.2.2.2.1 hSR ⟨hGI.1.1, hGI.1.2.1, hGI.1.2.2.1, Int.le_trans hGI.1.2.2.2 hB9⟩ hGI.2.1) (cwV 1 hts gL_law_X9_cloth rfl rfl rfl (by decide +kernel) ⟨Nat.le_of_ble_eq_true rfl, Nat.le_of_ble_eq_true rfl⟩) hP hD (hK.sub [0, 1, 2, 3, 4, 5, 6, 7, 8, 9, 10] rfl) hS hA hev hT0 0 9 rfl rfl rfl rfl hl.1 rfl (Nat.le_of_ble_eq_true rfl) dL_law_275 ⟨by show _ + 1 ≤ 601024; omega, by show _ + 8 ≤ 7293034; omega⟩ (fun r L2 f2 H locs hw hT2 hE2 hP hD hS => ?_)
  rw [← List.append_assoc] at hP hD
  have hW2 := hT2.1
  obtain ⟨⟨z_3, rfl⟩, hFr, v9, s9, hc1, hc2, hc3, hc4⟩ := hw
  have hP : va_P (dC, dI) vwCl ((va_pl L2 f2 ++ [(ou, .inl (co, 1, .inr (.inl fo)))]) ++ mw gm m0 bm i a) _ := hP
  have hD : va_D _ ((va_pl L2 f2 ++ [(ou, .inl (co, 1, .inr (.inl fo)))]) ++ mw gm m0 bm i a) := hD
  refine W.eq (g2 := F0 m 278 ls [.int z_3]) rfl ?_
  refine lv_pop hx hb dL_law_278 rfl ?_
  refine lv_aload_n hx hb dL_law_279 rfl (lv_at hl 2 rfl) ?_
  refine lv_aload_n hx hb dL_law_280 rfl (lv_at hl 4 rfl) ?_
  refine lv_iload hx hb dL_law_281 (lv_at hl 0 rfl) ?_
  refine lv_iconst (v := 1) hx hb dL_law_283 (by decide) ?_
  refine lv_iadd hx hb dL_law_284 ?_
  refine lv_topi (fun z_4 ez_4 => ?_)
  refine va_sld hx hb hX hbl hbA hS (sc_in ez_4 hii (by decide : (1 : Int32) = nI 1) (by decide) ht hLn) dL_law_285 ?_
  refine lv_topi (fun z_5 ez_5 => ?_)
  refine NV_V ⟨hx, hb, hml, hown, hts⟩ (m_X10_clothE l dC dI sa gm m0 bm i a z_5 _ hGI.1.2.1) (cwV 1 hts gL_law_X10_cloth rfl rfl rfl (by decide +kernel) ⟨Nat.le_of_ble_eq_true rfl, Nat.le_of_ble_eq_true rfl⟩) hP hD (hK.sub [12, 13, 14, 15, 16, 17, 18, 19, 20, 21, 22, 23, 24, 25, 26, 27, 28, 29, 30, 31, 32, 33, 34, 35, 36, 37, 38, 39, 40] rfl) hS hA hev rfl rfl rfl rfl hl.1 rfl (Nat.le_of_ble_eq_true rfl) dL_law_286 ⟨by show _ + 0 ≤ 601024; omega, by show _ + 0 ≤ 7293034; omega⟩ (fun r u H locs hw hP hD hS => ?_)
  obtain ⟨x0_6, x12_7, y13_8⟩ := u
  have hw : (∃ z : Int32, r = some (.int z)) ∧ (x0_6 = (clS z_5 (i, a)).1 ∧ ((clS z_5 (i, a)).1 = 0 → r = some (.int (clS z_5 (i, a)).2.1)) ∧ x12_7 = (clS z_5 (i, a)).2.2.1 12 ∧ y13_8 = (clS z_5 (i, a)).2.2.2 13) := hw
  obtain ⟨⟨z_9, rfl⟩, hwP⟩ := hw
  have hab0 : z_5 = z_2 := by rw [ez_5, ez_4, ez_2, ez_1]
  rw [hab0] at hwP
  have hX1 : ∀ j : Nat, j ≠ 0 → (va_up (va_up i 0 x0_6) 12 x12_7) j = (clS z_2 (i, a)).2.2.1 j := eqx_i fx_cl.1 (Eqx.up (by decide) (Eqx.up (by decide) Eqx.rf)) (by intro k hk; obtain rfl := List.mem_singleton.mp hk; exact hwP.2.2.1)
  have hX2 : (va_up a 13 y13_8) = (clS z_2 (i, a)).2.2.2 := eqx_a fx_cl.2 (Eqx.up (by decide) Eqx.rf) (by intro k hk; obtain rfl := List.mem_singleton.mp hk; exact hwP.2.2.2)
  have hI2 := LI.clo hI hW2 hE2 hFr (by decide) ⟨v9, s9, hc1, hc2, hc3⟩ hc4 hwP
  have hP : va_P (dC, dI) vwCl ((va_pl L2 f2 ++ [(ou, .inl (co, 1, .inr (.inl fo)))]) ++ mw gm m0 bm (va_up (va_up i 0 x0_6) 12 x12_7) (va_up a 13 y13_8)) _ := hP
  have hD : va_D _ ((va_pl L2 f2 ++ [(ou, .inl (co, 1, .inr (.inl fo)))]) ++ mw gm m0 bm (va_up (va_up i 0 x0_6) 12 x12_7) (va_up a 13 y13_8)) := hD
  refine W.eq (g2 := F0 m 289 ls [.int z_9]) rfl ?_
  refine lv_pop hx hb dL_law_289 rfl ?_
  refine lv_goto (tgt := 938) hx hb dL_law_290 (by decide) ?_
  exact W.widen (by omega) (by omega) (hk L2 f2 fo (va_up (va_up i 0 x0_6) 12 x12_7) (va_up a 13 y13_8) _ _ _ (hI2.mo (by omega)) (by rw [← sc_at ez_2 ez_1 hii (by decide : (1 : Int32) = nI 1) (show 6 * t + 1 < 4000 by omega)]; exact ⟨hX1, hX2⟩) hP hD hS (lv_sub hl [0, 1, 2, 3, 4] rfl))

set_option maxHeartbeats 4000000 in
set_option maxRecDepth 100000 in
theorem lo_plan {Z : State → Prop} {p : Program} {l : Launch} {e : Env} {s : State} {m : MethodId} {below : List Frame} {meth : Method} {c : Code} {b Ln : Nat} {xs : Nat → Int32} (hlt : l.stackTraces = false) (C0 : lw_At p s m meth c b Ln xs) (hLn : Ln ≤ 3072) {dC : Nat → ClassId} {dI : Nat → Nat → Nat} {sa : Nat → Nat} (hev : ev sa (fun q : Nat => s.heap.size ≤ q) s s.heap) {x0 rdr tok tp ka sta vaa wk vs cl ru pl tvr tc rc m0 ou : Nat} {va tv : Nat → Nat} {co : ClassId} {g gm bm : Nat → Nat} (hK : va_K (dC, dI) vwCl (tyG g ++ [(co, .long)] ++ tyM gm) s) {L : List Nat} {f : Nat → va_E} {fo : Nat → Int64} {i : Nat → Int32} {a : Nat → Nat → Int32} {H : Heap} {locs : List Loc} {ls : Array Slot} {cells slots t : Nat} {ii : Int32} (hI : LI g ((x0, rdr, tok, tp, ka, sta, vaa), (wk, vs, cl, ru, va), (pl, tvr, tc, tv), rc) ((10000 * t : Nat) : Int) L f i a) (hP : va_P (dC, dI) vwCl ((va_pl L f ++ [(ou, .inl (co, 1, .inr (.inl fo)))]) ++ mw gm m0 bm i a) H) (hD : va_D (fun q : Nat => s.heap.size ≤ q) ((va_pl L f ++ [(ou, .inl (co, 1, .inr (.inl fo)))]) ++ mw gm m0 bm i a)) (hS : va_S (fun q : Nat => s.heap.size ≤ q) s.heap H locs) (hl : lv_has ls 7 [(4, .int ii), (3, .ref ou), (2, .ref m0), (1, .ref x0), (0, .ref b)]) (hii : ii = nI (6 * t)) (ht : 6 * t + 6 ≤ Ln) (hc : cells + 2 ≤ 601024) (hs : slots + 12 ≤ 7293034) {kq : Int32} (hkq : rd f pl 5 = .int kq) (hk : ∀ (L2 : List Nat) (f2 : Nat → va_E) (fo2 : Nat → Int64) (i2 : Nat → Int32) (a2 : Nat → Nat → Int32) (H : Heap) (locs : List Loc) (ls : Array Slot), LI g ((x0, rdr, tok, tp, ka, sta, vaa), (wk, vs, cl, ru, va), (pl, tvr, tc, tv), rc) ((10000 * (t + 1) : Nat) : Int) L2 f2 i2 a2 → ((∀ j : Nat, j ≠ 0 → j ≠ 46 → i2 j = i j) ∧ (∀ j : Nat, j < 36 → a2 j = a j) ∧ ∃ o8 : OP, plS (xs (6 * t + 1)) (xs (6 * t + 2)) (xs (6 * t + 3)) (xs (6 * t + 4)) (i, a) o8 ∧ (o8.1 = 0 → (o8.2.1 = -1 → i2 46 = 0) ∧ ∃ k5 : Int32, rd f2 pl 5 = .int k5 ∧ (¬ a 16 (xs (6 * t + 1)).toNatClampNeg = -1 → k5 = kq) ∧ (a 16 (xs (6 * t + 1)).toNatClampNeg = -1 → (o8.2.1 = -1 ∧ k5 = 0) ∨ o8.2.1 = k5))) → va_P (dC, dI) vwCl ((va_pl L2 f2 ++ [(ou, .inl (co, 1, .inr (.inl fo2)))]) ++ mw gm m0 bm i2 a2) H → va_D (fun q : Nat => s.heap.size ≤ q) ((va_pl L2 f2 ++ [(ou, .inl (co, 1, .inr (.inl fo2)))]) ++ mw gm m0 bm i2 a2) → va_S (fun q : Nat => s.heap.size ≤ q) s.heap H locs → lv_has ls 7 [(4, .int ii), (3, .ref ou), (2, .ref m0), (1, .ref x0), (0, .ref b)] → W p l e room_1 s m #[Value.ref b] below meth c H locs (cells + 2) (slots + 12) Z (F0 m 938 ls [])) : W p l e room_1 s m #[Value.ref b] below meth c H locs cells slots Z (F0 m 606 ls []) := by
  obtain ⟨hx, hb, hr, hml, hown, hts, hX, hbl, hlocks, hgv⟩ := id C0
  have hown : s.vm.findClass RL = some m.cls := hown
  have hA : ∀ q : Nat, s.heap.size ≤ q → (fun q : Nat => s.heap.size ≤ q) q := fun _ h => h
  have hbA : ¬ (fun q : Nat => s.heap.size ≤ q) b := Nat.not_le.mpr hbl
  obtain ⟨hT0, ⟨⟨hRF, tt, hCN, hag⟩, ⟨hSR, h7, hPL⟩, hTE⟩, hGI, ht2, hBI, hkp⟩ := id hI
  have hB9 : ((10000 * t : Nat) : Int) ≤ 9000000 := by omega
  refine lv_aload_n hx hb dL_law_606 rfl (lv_at hl 3 rfl) ?_
  refine lv_aload_n hx hb dL_law_607 rfl (lv_at hl 4 rfl) ?_
  refine lv_iload hx hb dL_law_608 (lv_at hl 0 rfl) ?_
  refine lv_iconst (v := 1) hx hb dL_law_610 (by decide) ?_
  refine lv_iadd hx hb dL_law_611 ?_
  refine lv_topi (fun z_1 ez_1 => ?_)
  refine va_sld hx hb hX hbl hbA hS (sc_in ez_1 hii (by decide : (1 : Int32) = nI 1) (by decide) ht hLn) dL_law_612 ?_
  refine lv_topi (fun z_2 ez_2 => ?_)
  refine lv_aload_n hx hb dL_law_613 rfl (lv_at hl 4 rfl) ?_
  refine lv_iload hx hb dL_law_614 (lv_at hl 0 rfl) ?_
  refine lv_iconst (v := 2) hx hb dL_law_616 (by decide) ?_
  refine lv_iadd hx hb dL_law_617 ?_
  refine lv_topi (fun z_3 ez_3 => ?_)
  refine va_sld hx hb hX hbl hbA hS (sc_in ez_3 hii (by decide : (2 : Int32) = nI 2) (by decide) ht hLn) dL_law_618 ?_
  refine lv_topi (fun z_4 ez_4 => ?_)
  refine lv_aload_n hx hb dL_law_619 rfl (lv_at hl 4 rfl) ?_
  refine lv_iload hx hb dL_law_620 (lv_at hl 0 rfl) ?_
  refine lv_iconst (v := 3) hx hb dL_law_622 (by decide) ?_
  refine lv_iadd hx hb dL_law_623 ?_
  refine lv_topi (fun z_5 ez_5 => ?_)
  refine va_sld hx hb hX hbl hbA hS (sc_in ez_5 hii (by decide : (3 : Int32) = nI 3) (by decide) ht hLn) dL_law_624 ?_
  refine lv_topi (fun z_6 ez_6 => ?_)
  refine lv_aload_n hx hb dL_law_625 rfl (lv_at hl 4 rfl) ?_
  refine lv_iload hx hb dL_law_626 (lv_at hl 0 rfl) ?_
  refine lv_iconst (v := 4) hx hb dL_law_628 (by decide) ?_
  refine lv_iadd hx hb dL_law_629 ?_
  refine lv_topi (fun z_7 ez_7 => ?_)
  refine va_sld hx hb hX hbl hbA hS (sc_in ez_7 hii (by decide : (4 : Int32) = nI 4) (by decide) ht hLn) dL_law_630 ?_
  refine lv_topi (fun z_8 ez_8 => ?_)
  refine lv_aload_n hx hb dL_law_631 rfl (lv_at hl 1 rfl) ?_
  obtain ⟨ks, hks, hksm⟩ := hT0.1.ks (hT0.at 11 rfl)
  have hT9 := hT0.add hksm
  refine NW_S (hh := [(0, 14, 17, 13), (0, 14, 21, 18)]) ⟨hx, hb, hml, hown, hts⟩ (wS_plan l dC dI sa g _ _ x0 ou co _ z_2 z_4 z_6 z_8 _ (hT0.sub [0] rfl) (fun sz => (t_X9_planK l dC dI sa hlt g _ _ va (i, a) tv x0 z_2 z_4 z_6 z_8 wk vs cl ru pl tvr tc ks kq sz (hT9.sub [1, 8, 9, 10, 11, 12, 13, 14, 0] rfl) hkq hSR.1.2.1 hSR.1.2.2.2.2.1 hSR.1.2.2.1 hSR.1.2.2.2.1 hPL.1.1 hPL.1.2.1 hPL.1.2.2.1 hPL.1.2.2.2 hks hSR ⟨hGI.1.1, hGI.1.2.1, hGI.1.2.2.1, Int.le_trans hGI.1.2.2.2 hB9⟩ hPL.2.1 hPL.2.2.1.1 (fun k9 _ => hPL.2.2.2 k9) (fun k9 h9 => hT0.1.tvm (hT0.at 12 rfl) h9 (hPL.2.1 k9 h9)) hPL.2.2.1.2)) (fun _ _ _ h9 => h9.1) (fun _ _ _ h9 => h9.1.imp (fun q9 => q9.1) (fun q9 => q9.1))) (vx_cwSW 6 hts gL_law_L_plan rfl rfl rfl (by decide +kernel) ⟨Nat.le_of_ble_eq_true rfl, Nat.le_of_ble_eq_true rfl⟩) hP hD (hK.sub [0, 1, 2, 3, 4, 5, 6, 7, 8, 9, 10, 11] rfl) hS hA hev rfl hl.1 rfl (Nat.le_of_ble_eq_true rfl) dL_law_632 ⟨by show _ + 2 ≤ 601024; omega, by show _ + 12 ≤ 7293034; omega⟩ (fun r u H locs hw hP hD hS => ?_)
  obtain ⟨⟨L2, f2⟩, fo2⟩ := u
  obtain ⟨hW2, hE2, hw⟩ := hw
  have hE2 : Ext L f L2 f2 := hE2
  obtain ⟨z_9, rfl⟩ := wr_z3 hw
  obtain ⟨hS2, ⟨cs2, hcs2, hF2⟩, o8, hpl8, hpr8, hpf8, hk8⟩ := st_frK hSR hE2 (by decide) (by decide) (by decide) hw
  have hI1 := hI.still hW2 hE2 hF2 hcs2 hS2
  have hP : va_P (dC, dI) vwCl ((va_pl L2 f2 ++ [(ou, .inl (co, 1, .inr (.inl fo2)))]) ++ mw gm m0 bm i a) _ := hP
  have hD : va_D _ ((va_pl L2 f2 ++ [(ou, .inl (co, 1, .inr (.inl fo2)))]) ++ mw gm m0 bm i a) := hD
  refine W.eq (g2 := F0 m 635 ls [.int z_9]) rfl ?_
  refine lv_istore (lv' := [(5, .int z_9), (4, .int ii), (3, .ref ou), (2, .ref m0), (1, .ref x0), (0, .ref b)]) hx hb dL_law_635 hl (by decide) rfl (fun ls hl => ?_)
  refine lv_aload_n hx hb dL_law_637 rfl (lv_at hl 3 rfl) ?_
  refine lv_aload_n hx hb dL_law_638 rfl (lv_at hl 5 rfl) ?_
  refine lv_iload hx hb dL_law_639 (lv_at hl 1 rfl) ?_
  refine lv_iconst (v := 1) hx hb dL_law_641 (by decide) ?_
  refine lv_iadd hx hb dL_law_642 ?_
  refine lv_topi (fun z_10 ez_10 => ?_)
  refine va_sld hx hb hX hbl hbA hS (sc_in ez_10 hii (by decide : (1 : Int32) = nI 1) (by decide) ht hLn) dL_law_643 ?_
  refine lv_topi (fun z_11 ez_11 => ?_)
  refine lv_aload_n hx hb dL_law_644 rfl (lv_at hl 5 rfl) ?_
  refine lv_iload hx hb dL_law_645 (lv_at hl 1 rfl) ?_
  refine lv_iconst (v := 2) hx hb dL_law_647 (by decide) ?_
  refine lv_iadd hx hb dL_law_648 ?_
  refine lv_topi (fun z_12 ez_12 => ?_)
  refine va_sld hx hb hX hbl hbA hS (sc_in ez_12 hii (by decide : (2 : Int32) = nI 2) (by decide) ht hLn) dL_law_649 ?_
  refine lv_topi (fun z_13 ez_13 => ?_)
  refine lv_aload_n hx hb dL_law_650 rfl (lv_at hl 5 rfl) ?_
  refine lv_iload hx hb dL_law_651 (lv_at hl 1 rfl) ?_
  refine lv_iconst (v := 3) hx hb dL_law_653 (by decide) ?_
  refine lv_iadd hx hb dL_law_654 ?_
  refine lv_topi (fun z_14 ez_14 => ?_)
  refine va_sld hx hb hX hbl hbA hS (sc_in ez_14 hii (by decide : (3 : Int32) = nI 3) (by decide) ht hLn) dL_law_655 ?_
  refine lv_topi (fun z_15 ez_15 => ?_)
  refine lv_aload_n hx hb dL_law_656 rfl (lv_at hl 5 rfl) ?_
  refine lv_iload hx hb dL_law_657 (lv_at hl 1 rfl) ?_
  refine lv_iconst (v := 4) hx hb dL_law_659 (by decide) ?_
  refine lv_iadd hx hb dL_law_660 ?_
  refine lv_topi (fun z_16 ez_16 => ?_)
  refine va_sld hx hb hX hbl hbA hS (sc_in ez_16 hii (by decide : (4 : Int32) = nI 4) (by decide) ht hLn) dL_law_661 ?_
  refine lv_topi (fun z_17 ez_17 => ?_)
  refine NV_V ⟨hx, hb, hml, hown, hts⟩ (m_X10_planK l dC dI sa gm m0 bm i a z_11 z_13 z_15 z_17 _ hGI.1.2.1 hkp) (cwV 4 hts gL_law_X10_plan rfl rfl rfl (by decide +kernel) ⟨Nat.le_of_ble_eq_true rfl, Nat.le_of_ble_eq_true rfl⟩) hP hD (hK.sub [12, 13, 14, 15, 16, 17, 18, 19, 20, 21, 22, 23, 24, 25, 26, 27, 28, 29, 30, 31, 32, 33, 34, 35, 36, 37, 38, 39, 40] rfl) hS hA hev rfl rfl rfl rfl hl.1 rfl (Nat.le_of_ble_eq_true rfl) dL_law_662 ⟨by show _ + 0 ≤ 601024; omega, by show _ + 0 ≤ 7293034; omega⟩ (fun r u H locs hw hP hD hS => ?_)
  obtain ⟨x0_18, x46_19, y4_20, y5_21, y6_22, y7_23, y14_24, y15_25, y47_26, y48_27, y49_28, y50_29⟩ := u
  have hw : (∃ z : Int32, r = some (.int z)) ∧ (∃ o9 : OP, plS z_11 z_13 z_15 z_17 (i, a) o9 ∧ x0_18 = o9.1 ∧ (o9.1 = 0 → r = some (.int o9.2.1)) ∧ y4_20 = (a 4) ∧ y5_21 = (a 5) ∧ y6_22 = (a 6) ∧ y7_23 = (a 7) ∧ y14_24 = (a 14) ∧ y15_25 = (a 15) ∧ x46_19.toInt ≤ 3 ∧ (r = some (.int (-1)) → x46_19 = 0)) := hw
  obtain ⟨⟨z_30, rfl⟩, hwP⟩ := hw
  have hab0 : z_11 = z_2 := by rw [ez_11, ez_10, ez_2, ez_1]
  have hab1 : z_13 = z_4 := by rw [ez_13, ez_12, ez_4, ez_3]
  have hab2 : z_15 = z_6 := by rw [ez_15, ez_14, ez_6, ez_5]
  have hab3 : z_17 = z_8 := by rw [ez_17, ez_16, ez_8, ez_7]
  rw [hab0, hab1, hab2, hab3] at hwP
  obtain ⟨o9, hpl9, ho0, ho1, hr4, hr5, hr6, hr7, hr14, hr15, hk46, hk9⟩ := hwP
  obtain ⟨hth, hout⟩ := pl_end hpl8 hpr8 hpf8 hpl9 ho0 ho1
  have he2 : Eqx [47, 48, 49, 50] (va_up (va_up (va_up (va_up (va_up (va_up (va_up (va_up (va_up (va_up a 4 y4_20) 5 y5_21) 6 y6_22) 7 y7_23) 14 y14_24) 15 y15_25) 47 y47_26) 48 y48_27) 49 y49_28) 50 y50_29) a := (Eqx.up (by decide) (Eqx.up (by decide) (Eqx.up (by decide) (Eqx.up (by decide) (Eqx.ups hr15 (Eqx.ups hr14 (Eqx.ups hr7 (Eqx.ups hr6 (Eqx.ups hr5 (Eqx.ups hr4 Eqx.rf))))))))))
  have hI2 := LI.cg (i2 := (va_up (va_up i 0 x0_18) 46 x46_19)) (a2 := (va_up (va_up (va_up (va_up (va_up (va_up (va_up (va_up (va_up (va_up a 4 y4_20) 5 y5_21) 6 y6_22) 7 y7_23) 14 y14_24) 15 y15_25) 47 y47_26) 48 y48_27) 49 y49_28) 50 y50_29)) hI1 (by intro j hj; simp only [List.mem_cons, List.not_mem_nil, or_false] at hj; rcases hj with rfl | rfl | rfl | rfl | rfl | rfl | rfl | rfl | rfl | rfl | rfl | rfl | rfl | rfl | rfl <;> rfl) hk46 (fun j hj => he2 j (by simp only [List.mem_cons, List.not_mem_nil, or_false]; omega))
  have hP : va_P (dC, dI) vwCl ((va_pl L2 f2 ++ [(ou, .inl (co, 1, .inr (.inl fo2)))]) ++ mw gm m0 bm (va_up (va_up i 0 x0_18) 46 x46_19) (va_up (va_up (va_up (va_up (va_up (va_up (va_up (va_up (va_up (va_up a 4 y4_20) 5 y5_21) 6 y6_22) 7 y7_23) 14 y14_24) 15 y15_25) 47 y47_26) 48 y48_27) 49 y49_28) 50 y50_29)) _ := hP
  have hD : va_D _ ((va_pl L2 f2 ++ [(ou, .inl (co, 1, .inr (.inl fo2)))]) ++ mw gm m0 bm (va_up (va_up i 0 x0_18) 46 x46_19) (va_up (va_up (va_up (va_up (va_up (va_up (va_up (va_up (va_up (va_up a 4 y4_20) 5 y5_21) 6 y6_22) 7 y7_23) 14 y14_24) 15 y15_25) 47 y47_26) 48 y48_27) 49 y49_28) 50 y50_29)) := hD
  refine W.eq (g2 := F0 m 665 ls [.int z_30]) rfl ?_
  refine lv_istore (lv' := [(6, .int z_30), (5, .int z_9), (4, .int ii), (3, .ref ou), (2, .ref m0), (1, .ref x0), (0, .ref b)]) hx hb dL_law_665 hl (by decide) rfl (fun ls hl => ?_)
  refine lv_goto (tgt := 938) hx hb dL_law_667 (by decide) ?_
  exact W.widen (by omega) (by omega) (hk L2 f2 fo2 (va_up (va_up i 0 x0_18) 46 x46_19) (va_up (va_up (va_up (va_up (va_up (va_up (va_up (va_up (va_up (va_up a 4 y4_20) 5 y5_21) 6 y6_22) 7 y7_23) 14 y14_24) 15 y15_25) 47 y47_26) 48 y48_27) 49 y49_28) 50 y50_29) _ _ _ (hI2.mo (by omega)) (by rw [← sc_at ez_2 ez_1 hii (by decide : (1 : Int32) = nI 1) (show 6 * t + 1 < 4000 by omega), ← sc_at ez_4 ez_3 hii (by decide : (2 : Int32) = nI 2) (show 6 * t + 2 < 4000 by omega), ← sc_at ez_6 ez_5 hii (by decide : (3 : Int32) = nI 3) (show 6 * t + 3 < 4000 by omega), ← sc_at ez_8 ez_7 hii (by decide : (4 : Int32) = nI 4) (show 6 * t + 4 < 4000 by omega)]; exact pl_kp hpl8 hk8 hpl9 ho1 hk9 (fun j h1 h2 => (va_up_ne _ _ h2).trans (va_up_ne _ _ h1)) (fun j hj => he2 j (by simp only [List.mem_cons, List.not_mem_nil, or_false]; omega))) hP hD hS (lv_sub hl [2, 3, 4, 5, 6] rfl))

set_option maxHeartbeats 4000000 in
set_option maxRecDepth 100000 in
theorem lo_planned {p : Program} {l : Launch} {e : Env} {s : State} {m : MethodId} {below : List Frame} {meth : Method} {c : Code} {b Ln : Nat} {xs : Nat → Int32} (hlt : l.stackTraces = false) (C0 : lw_At p s m meth c b Ln xs) (hLn : Ln ≤ 3072) {dC : Nat → ClassId} {dI : Nat → Nat → Nat} {sa : Nat → Nat} (hev : ev sa (fun q : Nat => s.heap.size ≤ q) s s.heap) {x0 rdr tok tp ka sta vaa wk vs cl ru pl tvr tc rc m0 ou : Nat} {va tv : Nat → Nat} {co : ClassId} {g gm bm : Nat → Nat} (hK : va_K (dC, dI) vwCl (tyG g ++ [(co, .long)] ++ tyM gm) s) {L : List Nat} {f : Nat → va_E} {fo : Nat → Int64} {i : Nat → Int32} {a : Nat → Nat → Int32} {H : Heap} {locs : List Loc} {ls : Array Slot} {cells slots t : Nat} {ii : Int32} (hI : LI g ((x0, rdr, tok, tp, ka, sta, vaa), (wk, vs, cl, ru, va), (pl, tvr, tc, tv), rc) ((10000 * t : Nat) : Int) L f i a) (hP : va_P (dC, dI) vwCl ((va_pl L f ++ [(ou, .inl (co, 1, .inr (.inl fo)))]) ++ mw gm m0 bm i a) H) (hD : va_D (fun q : Nat => s.heap.size ≤ q) ((va_pl L f ++ [(ou, .inl (co, 1, .inr (.inl fo)))]) ++ mw gm m0 bm i a)) (hS : va_S (fun q : Nat => s.heap.size ≤ q) s.heap H locs) (hl : lv_has ls 7 [(4, .int ii), (3, .ref ou), (2, .ref m0), (1, .ref x0), (0, .ref b)]) (hii : ii = nI (6 * t)) (ht : 6 * t + 6 ≤ Ln) (hc : cells + 2 ≤ 601024) (hs : slots + 12 ≤ 7293034) {kq : Int32} (hkq : rd f pl 5 = .int kq) (hq1 : kq = 1) (hx1 : xs (6 * t + 1) = 0) (hx2 : xs (6 * t + 2) = 0) (h46 : i 46 = 0) : W p l e room_1 s m #[Value.ref b] below meth c H locs cells slots (lw_Z0 below #[Value.ref b] s) (F0 m 670 ls []) := by
  obtain ⟨hx, hb, hr, hml, hown, hts, hX, hbl, hlocks, hgv⟩ := id C0
  have hown : s.vm.findClass RL = some m.cls := hown
  have hA : ∀ q : Nat, s.heap.size ≤ q → (fun q : Nat => s.heap.size ≤ q) q := fun _ h => h
  have hbA : ¬ (fun q : Nat => s.heap.size ≤ q) b := Nat.not_le.mpr hbl
  obtain ⟨hT0, ⟨⟨hRF, tt, hCN, hag⟩, ⟨hSR, h7, hPL⟩, hTE⟩, hGI, ht2, hBI, hkp⟩ := id hI
  have hB9 : ((10000 * t : Nat) : Int) ≤ 9000000 := by omega
  refine lv_aload_n hx hb dL_law_670 rfl (lv_at hl 3 rfl) ?_
  refine lv_aload_n hx hb dL_law_671 rfl (lv_at hl 4 rfl) ?_
  refine lv_iload hx hb dL_law_672 (lv_at hl 0 rfl) ?_
  refine lv_iconst (v := 1) hx hb dL_law_674 (by decide) ?_
  refine lv_iadd hx hb dL_law_675 ?_
  refine lv_topi (fun z_1 ez_1 => ?_)
  refine va_sld hx hb hX hbl hbA hS (sc_in ez_1 hii (by decide : (1 : Int32) = nI 1) (by decide) ht hLn) dL_law_676 ?_
  refine lv_topi (fun z_2 ez_2 => ?_)
  refine lv_aload_n hx hb dL_law_677 rfl (lv_at hl 4 rfl) ?_
  refine lv_iload hx hb dL_law_678 (lv_at hl 0 rfl) ?_
  refine lv_iconst (v := 2) hx hb dL_law_680 (by decide) ?_
  refine lv_iadd hx hb dL_law_681 ?_
  refine lv_topi (fun z_3 ez_3 => ?_)
  refine va_sld hx hb hX hbl hbA hS (sc_in ez_3 hii (by decide : (2 : Int32) = nI 2) (by decide) ht hLn) dL_law_682 ?_
  refine lv_topi (fun z_4 ez_4 => ?_)
  refine lv_aload_n hx hb dL_law_683 rfl (lv_at hl 1 rfl) ?_
  refine NW_S (hh := [(0, 10, 13, 13)]) ⟨hx, hb, hml, hown, hts⟩ (wS_planned l dC dI sa g _ _ x0 ou co _ z_2 z_4 _ (hT0.sub [0] rfl) (fun sz => (t_X9_plannedK l dC dI sa hlt g _ _ x0 z_2 z_4 pl kq sz (hT0.sub [0, 11] rfl) hkq hPL.1.1)) (fun _ _ _ h9 => h9.1) (fun _ _ _ h9 => h9.1.1)) (vx_cwSW 4 hts gL_law_L_planned rfl rfl rfl (by decide +kernel) ⟨Nat.le_of_ble_eq_true rfl, Nat.le_of_ble_eq_true rfl⟩) hP hD (hK.sub [0, 1, 2, 3, 4, 5, 6, 7, 8, 9, 10, 11] rfl) hS hA hev rfl hl.1 rfl (Nat.le_of_ble_eq_true rfl) dL_law_684 ⟨by show _ + 1 ≤ 601024; omega, by show _ + 6 ≤ 7293034; omega⟩ (fun r u H locs hw hP hD hS => ?_)
  obtain ⟨⟨L2, f2⟩, fo2⟩ := u
  obtain ⟨hW2, hE2, hw⟩ := hw
  have hE2 : Ext L f L2 f2 := hE2
  obtain ⟨z_5, rfl⟩ := wr_z hw
  have hz0 := st_z0 hw ⟨((sc_at ez_2 ez_1 hii (by decide : (1 : Int32) = nI 1) (by omega)).trans hx1), ((sc_at ez_4 ez_3 hii (by decide : (2 : Int32) = nI 2) (by omega)).trans hx2), hq1⟩
  obtain ⟨hS2, hF2⟩ := st_f0 hSR hE2 hw
  have hI1 := hI.still hW2 hE2 hF2 (by decide) hS2
  have hP : va_P (dC, dI) vwCl ((va_pl L2 f2 ++ [(ou, .inl (co, 1, .inr (.inl fo2)))]) ++ mw gm m0 bm i a) _ := hP
  have hD : va_D _ ((va_pl L2 f2 ++ [(ou, .inl (co, 1, .inr (.inl fo2)))]) ++ mw gm m0 bm i a) := hD
  refine W.eq (g2 := F0 m 687 ls [.int z_5]) rfl ?_
  refine lv_istore (lv' := [(5, .int z_5), (4, .int ii), (3, .ref ou), (2, .ref m0), (1, .ref x0), (0, .ref b)]) hx hb dL_law_687 hl (by decide) rfl (fun ls hl => ?_)
  refine lv_aload_n hx hb dL_law_689 rfl (lv_at hl 3 rfl) ?_
  refine lv_aload_n hx hb dL_law_690 rfl (lv_at hl 5 rfl) ?_
  refine lv_iload hx hb dL_law_691 (lv_at hl 1 rfl) ?_
  refine lv_iconst (v := 1) hx hb dL_law_693 (by decide) ?_
  refine lv_iadd hx hb dL_law_694 ?_
  refine lv_topi (fun z_6 ez_6 => ?_)
  refine va_sld hx hb hX hbl hbA hS (sc_in ez_6 hii (by decide : (1 : Int32) = nI 1) (by decide) ht hLn) dL_law_695 ?_
  refine lv_topi (fun z_7 ez_7 => ?_)
  refine lv_aload_n hx hb dL_law_696 rfl (lv_at hl 5 rfl) ?_
  refine lv_iload hx hb dL_law_697 (lv_at hl 1 rfl) ?_
  refine lv_iconst (v := 2) hx hb dL_law_699 (by decide) ?_
  refine lv_iadd hx hb dL_law_700 ?_
  refine lv_topi (fun z_8 ez_8 => ?_)
  refine va_sld hx hb hX hbl hbA hS (sc_in ez_8 hii (by decide : (2 : Int32) = nI 2) (by decide) ht hLn) dL_law_701 ?_
  refine lv_topi (fun z_9 ez_9 => ?_)
  refine NV_V ⟨hx, hb, hml, hown, hts⟩ (m_X10_plannedK l dC dI sa gm m0 bm i a z_7 z_9 _ hkp) (cwV 2 hts gL_law_X10_planned rfl rfl rfl (by decide +kernel) ⟨Nat.le_of_ble_eq_true rfl, Nat.le_of_ble_eq_true rfl⟩) hP hD (hK.sub [12, 13, 14, 15, 16, 17, 18, 19, 20, 21, 22, 23, 24, 25, 26, 27, 28, 29, 30, 31, 32, 33, 34, 35, 36, 37, 38, 39, 40] rfl) hS hA hev rfl rfl rfl rfl hl.1 rfl (Nat.le_of_ble_eq_true rfl) dL_law_702 ⟨by show _ + 0 ≤ 601024; omega, by show _ + 0 ≤ 7293034; omega⟩ (fun r u H locs hw hP hD hS => ?_)
  obtain ⟨x0_10, rfl⟩ : ∃ z, z = u := ⟨_, rfl⟩
  have hw : (∃ z : Int32, r = some (.int z)) ∧ ((i 46) = 0 → x0_10 = 1) := hw
  obtain ⟨⟨z_11, rfl⟩, hwP⟩ := hw
  have hab0 : z_7 = z_2 := by rw [ez_7, ez_6, ez_2, ez_1]
  have hab1 : z_9 = z_4 := by rw [ez_9, ez_8, ez_4, ez_3]
  have hI2 := LI.cg (i2 := (va_up i 0 x0_10)) (a2 := a) hI1 (by intro j hj; simp only [List.mem_cons, List.not_mem_nil, or_false] at hj; rcases hj with rfl | rfl | rfl | rfl | rfl | rfl | rfl | rfl | rfl | rfl | rfl | rfl | rfl | rfl | rfl <;> rfl) hkp (fun j hj => rfl)
  have hP : va_P (dC, dI) vwCl ((va_pl L2 f2 ++ [(ou, .inl (co, 1, .inr (.inl fo2)))]) ++ mw gm m0 bm (va_up i 0 x0_10) a) _ := hP
  have hD : va_D _ ((va_pl L2 f2 ++ [(ou, .inl (co, 1, .inr (.inl fo2)))]) ++ mw gm m0 bm (va_up i 0 x0_10) a) := hD
  refine W.eq (g2 := F0 m 705 ls [.int z_11]) rfl ?_
  refine lv_istore (lv' := [(6, .int z_11), (5, .int z_5), (4, .int ii), (3, .ref ou), (2, .ref m0), (1, .ref x0), (0, .ref b)]) hx hb dL_law_705 hl (by decide) rfl (fun ls hl => ?_)
  refine lv_aload_n hx hb dL_law_707 rfl (lv_at hl 4 rfl) ?_
  refine NV_V ⟨hx, hb, hml, hown, hts⟩ (m_X10_thrownX l dC dI sa gm m0 bm (va_up i 0 x0_10) a  _ ) (cwV 0 hts gL_law_X10_thrown rfl rfl rfl (by decide +kernel) ⟨Nat.le_of_ble_eq_true rfl, Nat.le_of_ble_eq_true rfl⟩) hP hD (hK.sub [12, 13, 14, 15, 16, 17, 18, 19, 20, 21, 22, 23, 24, 25, 26, 27, 28, 29, 30, 31, 32, 33, 34, 35, 36, 37, 38, 39, 40] rfl) hS hA hev rfl rfl rfl rfl hl.1 rfl (Nat.le_of_ble_eq_true rfl) dL_law_708 ⟨by show _ + 0 ≤ 601024; omega, by show _ + 0 ≤ 7293034; omega⟩ (fun r u H locs hw hP hD hS => ?_)
  have hw : (∃ z : Int32, r = some (.int z) ∧ (z = x0_10)) ∧ (True) := hw
  obtain ⟨⟨z_12, rfl, hz⟩, -⟩ := hw
  have hP : va_P (dC, dI) vwCl ((va_pl L2 f2 ++ [(ou, .inl (co, 1, .inr (.inl fo2)))]) ++ mw gm m0 bm (va_up i 0 x0_10) a) _ := hP
  have hD : va_D _ ((va_pl L2 f2 ++ [(ou, .inl (co, 1, .inr (.inl fo2)))]) ++ mw gm m0 bm (va_up i 0 x0_10) a) := hD
  refine W.eq (g2 := F0 m 711 ls [.int z_12]) rfl ?_
  refine lv_iload hx hb dL_law_711 (lv_at hl 1 rfl) ?_
  refine lv_icmp_eq (tgt := 718) hx hb dL_law_713 (by decide) (fun c_13 => ?_) (fun c_13 => ?_)
  · exact absurd c_13 (fun h => nz_th h hz (hwP h46) hz0)
  refine lv_iconst (v := 0) hx hb dL_law_716 (by decide) ?_
  refine va_forget (fun q hq => hS.2.2 q hq) ?_
  refine W.widen (k := 601024) (n := 7293034) (by omega) (by omega) ?_
  exact lw_ret0 hx hb hr hlocks dL_law_717

set_option maxHeartbeats 4000000 in
set_option maxRecDepth 100000 in
theorem tn_charge {Z : State → Prop} {p : Program} {l : Launch} {e : Env} {s : State} {m : MethodId} {below : List Frame} {meth : Method} {c : Code} {b Ln : Nat} {xs : Nat → Int32} (hlt : l.stackTraces = false) (C0 : lw_At p s m meth c b Ln xs) (hLn : Ln ≤ 3072) {dC : Nat → ClassId} {dI : Nat → Nat → Nat} {sa : Nat → Nat} (hev : ev sa (fun q : Nat => s.heap.size ≤ q) s s.heap) {x0 rdr tok tp ka sta vaa wk vs cl ru pl tvr tc rc m0 ou : Nat} {va tv : Nat → Nat} {co : ClassId} {g gm bm : Nat → Nat} (hK : va_K (dC, dI) vwCl (tyG g ++ [(co, .long)] ++ tyM gm) s) {L : List Nat} {f : Nat → va_E} {fo : Nat → Int64} {i : Nat → Int32} {a : Nat → Nat → Int32} {H : Heap} {locs : List Loc} {ls : Array Slot} {cells slots t : Nat} {ii : Int32} (hI : LI g ((x0, rdr, tok, tp, ka, sta, vaa), (wk, vs, cl, ru, va), (pl, tvr, tc, tv), rc) ((10000 * t : Nat) : Int) L f i a) (hP : va_P (dC, dI) vwCl ((va_pl L f ++ [(ou, .inl (co, 1, .inr (.inl fo)))]) ++ mw gm m0 bm i a) H) (hD : va_D (fun q : Nat => s.heap.size ≤ q) ((va_pl L f ++ [(ou, .inl (co, 1, .inr (.inl fo)))]) ++ mw gm m0 bm i a)) (hS : va_S (fun q : Nat => s.heap.size ≤ q) s.heap H locs) (hl : lv_has ls 7 [(4, .int ii), (3, .ref ou), (2, .ref m0), (1, .ref x0), (0, .ref b)]) (hii : ii = nI (6 * t)) (ht : 6 * t + 6 ≤ Ln) (hc : cells + 2 ≤ 601024) (hs : slots + 12 ≤ 7293034) (hop : xs (6 * t) = 0) (hk : W p l e room_1 s m #[Value.ref b] below meth c H locs cells slots Z (F0 m 132 ls [])) : W p l e room_1 s m #[Value.ref b] below meth c H locs cells slots Z (F0 m 23 ls []) := by
  obtain ⟨hx, hb, hr, hml, hown, hts, hX, hbl, hlocks, hgv⟩ := id C0
  have hown : s.vm.findClass RL = some m.cls := hown
  have hA : ∀ q : Nat, s.heap.size ≤ q → (fun q : Nat => s.heap.size ≤ q) q := fun _ h => h
  have hbA : ¬ (fun q : Nat => s.heap.size ≤ q) b := Nat.not_le.mpr hbl
  refine lv_iload hx hb dL_law_23 (lv_at hl 0 rfl) ?_
  refine lv_aload_n hx hb dL_law_25 rfl (lv_at hl 4 rfl) ?_
  refine va_slen hx hb hX hbl hbA hS dL_law_26 ?_
  refine lv_topi (fun z_1 ez_1 => ?_)
  refine lv_bipush (v := 6) hx hb dL_law_27 (by decide) ?_
  refine lv_isub hx hb dL_law_29 ?_
  refine lv_topi (fun z_2 ez_2 => ?_)
  refine lv_icmp_gt (tgt := 944) hx hb dL_law_30 (by decide) (fun c_3 => absurd c_3 (sc_nl hii ez_1 ez_2 hLn ht)) (fun c_3 => ?_)
  refine lv_aload_n hx hb dL_law_33 rfl (lv_at hl 4 rfl) ?_
  refine lv_iload hx hb dL_law_34 (lv_at hl 0 rfl) ?_
  refine va_sld hx hb hX hbl hbA hS (sc_in0 hii ht hLn) dL_law_36 ?_
  refine lv_topi (fun z_4 ez_4 => ?_)
  refine lv_bipush (v := 31) hx hb dL_law_37 (by decide) ?_
  refine lv_iand hx hb dL_law_39 ?_
  refine lv_topi (fun z_5 ez_5 => ?_)
  have c_6 : z_5 = 0 := by rw [ez_5, ez_4, sc_0 (xs := xs) hii (by omega), hop]; decide
  refine lv_tableIn (tgt := 132) hx hb dL_law_40 (by rw [c_6]; decide) (by rw [c_6]; decide) (by rw [c_6]; rfl) (by decide) ?_
  exact hk

set_option maxHeartbeats 4000000 in
set_option maxRecDepth 100000 in
theorem sp_charge {Z : State → Prop} {p : Program} {l : Launch} {e : Env} {s : State} {m : MethodId} {below : List Frame} {meth : Method} {c : Code} {b Ln : Nat} {xs : Nat → Int32} (hlt : l.stackTraces = false) (C0 : lw_At p s m meth c b Ln xs) (hLn : Ln ≤ 3072) {dC : Nat → ClassId} {dI : Nat → Nat → Nat} {sa : Nat → Nat} (hev : ev sa (fun q : Nat => s.heap.size ≤ q) s s.heap) {x0 rdr tok tp ka sta vaa wk vs cl ru pl tvr tc rc m0 ou : Nat} {va tv : Nat → Nat} {co : ClassId} {g gm bm : Nat → Nat} (hK : va_K (dC, dI) vwCl (tyG g ++ [(co, .long)] ++ tyM gm) s) {L : List Nat} {f : Nat → va_E} {fo : Nat → Int64} {i : Nat → Int32} {a : Nat → Nat → Int32} {H : Heap} {locs : List Loc} {ls : Array Slot} {cells slots t : Nat}  (hI : LI g ((x0, rdr, tok, tp, ka, sta, vaa), (wk, vs, cl, ru, va), (pl, tvr, tc, tv), rc) ((10000 * t : Nat) : Int) L f i a) (hP : va_P (dC, dI) vwCl ((va_pl L f ++ [(ou, .inl (co, 1, .inr (.inl fo)))]) ++ mw gm m0 bm i a) H) (hD : va_D (fun q : Nat => s.heap.size ≤ q) ((va_pl L f ++ [(ou, .inl (co, 1, .inr (.inl fo)))]) ++ mw gm m0 bm i a)) (hS : va_S (fun q : Nat => s.heap.size ≤ q) s.heap H locs) (hl : lv_has ls 7 [(4, .int (nI (6 * t))), (3, .ref ou), (2, .ref m0), (1, .ref x0), (0, .ref b)]) (ht : 6 * t + 6 ≤ Ln) (hc : cells + 2 ≤ 601024) (hs : slots + 12 ≤ 7293034) (hop : xs (6 * t) = 0) (hk : ∀ (L2 : List Nat) (f2 : Nat → va_E) (fo2 : Nat → Int64) (i2 : Nat → Int32) (a2 : Nat → Nat → Int32) (H : Heap) (locs : List Loc) (ls : Array Slot), LI g ((x0, rdr, tok, tp, ka, sta, vaa), (wk, vs, cl, ru, va), (pl, tvr, tc, tv), rc) ((10000 * (t + 1) : Nat) : Int) L2 f2 i2 a2 → ((∀ j : Nat, j ≠ 0 → i2 j = (chG (xs (6 * t + 1)) (xs (6 * t + 2)) (i, a)).2.2.1 j) ∧ a2 = (chG (xs (6 * t + 1)) (xs (6 * t + 2)) (i, a)).2.2.2) → va_P (dC, dI) vwCl ((va_pl L2 f2 ++ [(ou, .inl (co, 1, .inr (.inl fo2)))]) ++ mw gm m0 bm i2 a2) H → va_D (fun q : Nat => s.heap.size ≤ q) ((va_pl L2 f2 ++ [(ou, .inl (co, 1, .inr (.inl fo2)))]) ++ mw gm m0 bm i2 a2) → va_S (fun q : Nat => s.heap.size ≤ q) s.heap H locs → lv_has ls 7 [(4, .int (nI (6 * (t + 1)))), (3, .ref ou), (2, .ref m0), (1, .ref x0), (0, .ref b)] → W p l e room_1 s m #[Value.ref b] below meth c H locs (cells + 2) (slots + 12) Z (F0 m 23 ls [])) : W p l e room_1 s m #[Value.ref b] below meth c H locs cells slots Z (F0 m 23 ls []) := by
  obtain ⟨hx, hb, hr, hml, hown, hts, hX, hbl, hlocks, hgv⟩ := id C0
  have hown : s.vm.findClass RL = some m.cls := hown
  have hA : ∀ q : Nat, s.heap.size ≤ q → (fun q : Nat => s.heap.size ≤ q) q := fun _ h => h
  have hbA : ¬ (fun q : Nat => s.heap.size ≤ q) b := Nat.not_le.mpr hbl
  refine tn_charge hlt C0 hLn hev hK hI hP hD hS hl rfl ht hc hs hop (lo_charge hlt C0 hLn hev hK hI hP hD hS hl rfl ht hc hs ?_)
  intro L2 f2 fo2 i2 a2 H locs ls hI hR hP hD hS hl
  refine lv_iinc (v := nI (6 * (t + 1))) (lv' := [(4, .int (nI (6 * (t + 1)))), (3, .ref ou), (2, .ref m0), (1, .ref x0), (0, .ref b)]) hx hb dL_law_938 hl (k := 0) rfl (by show nI (6 * t) + nI 6 = nI (6 * (t + 1)); rw [nI_add]; exact congrArg nI (by omega)) (by decide) rfl (fun ls hl => ?_)
  refine lv_goto (tgt := 23) hx hb dL_law_941 (by decide) ?_
  exact hk L2 f2 fo2 i2 a2 H locs ls hI hR hP hD hS hl

set_option maxHeartbeats 4000000 in
set_option maxRecDepth 100000 in
theorem tn_feed {Z : State → Prop} {p : Program} {l : Launch} {e : Env} {s : State} {m : MethodId} {below : List Frame} {meth : Method} {c : Code} {b Ln : Nat} {xs : Nat → Int32} (hlt : l.stackTraces = false) (C0 : lw_At p s m meth c b Ln xs) (hLn : Ln ≤ 3072) {dC : Nat → ClassId} {dI : Nat → Nat → Nat} {sa : Nat → Nat} (hev : ev sa (fun q : Nat => s.heap.size ≤ q) s s.heap) {x0 rdr tok tp ka sta vaa wk vs cl ru pl tvr tc rc m0 ou : Nat} {va tv : Nat → Nat} {co : ClassId} {g gm bm : Nat → Nat} (hK : va_K (dC, dI) vwCl (tyG g ++ [(co, .long)] ++ tyM gm) s) {L : List Nat} {f : Nat → va_E} {fo : Nat → Int64} {i : Nat → Int32} {a : Nat → Nat → Int32} {H : Heap} {locs : List Loc} {ls : Array Slot} {cells slots t : Nat} {ii : Int32} (hI : LI g ((x0, rdr, tok, tp, ka, sta, vaa), (wk, vs, cl, ru, va), (pl, tvr, tc, tv), rc) ((10000 * t : Nat) : Int) L f i a) (hP : va_P (dC, dI) vwCl ((va_pl L f ++ [(ou, .inl (co, 1, .inr (.inl fo)))]) ++ mw gm m0 bm i a) H) (hD : va_D (fun q : Nat => s.heap.size ≤ q) ((va_pl L f ++ [(ou, .inl (co, 1, .inr (.inl fo)))]) ++ mw gm m0 bm i a)) (hS : va_S (fun q : Nat => s.heap.size ≤ q) s.heap H locs) (hl : lv_has ls 7 [(4, .int ii), (3, .ref ou), (2, .ref m0), (1, .ref x0), (0, .ref b)]) (hii : ii = nI (6 * t)) (ht : 6 * t + 6 ≤ Ln) (hc : cells + 2 ≤ 601024) (hs : slots + 12 ≤ 7293034) (hop : xs (6 * t) = 1) (hk : W p l e room_1 s m #[Value.ref b] below meth c H locs cells slots Z (F0 m 172 ls [])) : W p l e room_1 s m #[Value.ref b] below meth c H locs cells slots Z (F0 m 23 ls []) := by
  obtain ⟨hx, hb, hr, hml, hown, hts, hX, hbl, hlocks, hgv⟩ := id C0
  have hown : s.vm.findClass RL = some m.cls := hown
  have hA : ∀ q : Nat, s.heap.size ≤ q → (fun q : Nat => s.heap.size ≤ q) q := fun _ h => h
  have hbA : ¬ (fun q : Nat => s.heap.size ≤ q) b := Nat.not_le.mpr hbl
  refine lv_iload hx hb dL_law_23 (lv_at hl 0 rfl) ?_
  refine lv_aload_n hx hb dL_law_25 rfl (lv_at hl 4 rfl) ?_
  refine va_slen hx hb hX hbl hbA hS dL_law_26 ?_
  refine lv_topi (fun z_1 ez_1 => ?_)
  refine lv_bipush (v := 6) hx hb dL_law_27 (by decide) ?_
  refine lv_isub hx hb dL_law_29 ?_
  refine lv_topi (fun z_2 ez_2 => ?_)
  refine lv_icmp_gt (tgt := 944) hx hb dL_law_30 (by decide) (fun c_3 => absurd c_3 (sc_nl hii ez_1 ez_2 hLn ht)) (fun c_3 => ?_)
  refine lv_aload_n hx hb dL_law_33 rfl (lv_at hl 4 rfl) ?_
  refine lv_iload hx hb dL_law_34 (lv_at hl 0 rfl) ?_
  refine va_sld hx hb hX hbl hbA hS (sc_in0 hii ht hLn) dL_law_36 ?_
  refine lv_topi (fun z_4 ez_4 => ?_)
  refine lv_bipush (v := 31) hx hb dL_law_37 (by decide) ?_
  refine lv_iand hx hb dL_law_39 ?_
  refine lv_topi (fun z_5 ez_5 => ?_)
  have c_6 : z_5 = 1 := by rw [ez_5, ez_4, sc_0 (xs := xs) hii (by omega), hop]; decide
  refine lv_tableIn (tgt := 172) hx hb dL_law_40 (by rw [c_6]; decide) (by rw [c_6]; decide) (by rw [c_6]; rfl) (by decide) ?_
  exact hk

set_option maxHeartbeats 4000000 in
set_option maxRecDepth 100000 in
theorem sp_feed {Z : State → Prop} {p : Program} {l : Launch} {e : Env} {s : State} {m : MethodId} {below : List Frame} {meth : Method} {c : Code} {b Ln : Nat} {xs : Nat → Int32} (hlt : l.stackTraces = false) (C0 : lw_At p s m meth c b Ln xs) (hLn : Ln ≤ 3072) {dC : Nat → ClassId} {dI : Nat → Nat → Nat} {sa : Nat → Nat} (hev : ev sa (fun q : Nat => s.heap.size ≤ q) s s.heap) {x0 rdr tok tp ka sta vaa wk vs cl ru pl tvr tc rc m0 ou : Nat} {va tv : Nat → Nat} {co : ClassId} {g gm bm : Nat → Nat} (hK : va_K (dC, dI) vwCl (tyG g ++ [(co, .long)] ++ tyM gm) s) {L : List Nat} {f : Nat → va_E} {fo : Nat → Int64} {i : Nat → Int32} {a : Nat → Nat → Int32} {H : Heap} {locs : List Loc} {ls : Array Slot} {cells slots t : Nat}  (hI : LI g ((x0, rdr, tok, tp, ka, sta, vaa), (wk, vs, cl, ru, va), (pl, tvr, tc, tv), rc) ((10000 * t : Nat) : Int) L f i a) (hP : va_P (dC, dI) vwCl ((va_pl L f ++ [(ou, .inl (co, 1, .inr (.inl fo)))]) ++ mw gm m0 bm i a) H) (hD : va_D (fun q : Nat => s.heap.size ≤ q) ((va_pl L f ++ [(ou, .inl (co, 1, .inr (.inl fo)))]) ++ mw gm m0 bm i a)) (hS : va_S (fun q : Nat => s.heap.size ≤ q) s.heap H locs) (hl : lv_has ls 7 [(4, .int (nI (6 * t))), (3, .ref ou), (2, .ref m0), (1, .ref x0), (0, .ref b)]) (ht : 6 * t + 6 ≤ Ln) (hc : cells + 2 ≤ 601024) (hs : slots + 12 ≤ 7293034) (hop : xs (6 * t) = 1) (hk : ∀ (L2 : List Nat) (f2 : Nat → va_E) (fo2 : Nat → Int64) (i2 : Nat → Int32) (a2 : Nat → Nat → Int32) (H : Heap) (locs : List Loc) (ls : Array Slot), LI g ((x0, rdr, tok, tp, ka, sta, vaa), (wk, vs, cl, ru, va), (pl, tvr, tc, tv), rc) ((10000 * (t + 1) : Nat) : Int) L2 f2 i2 a2 → ((∀ j : Nat, j ≠ 0 → i2 j = (fdS (xs (6 * t + 1)) (xs (6 * t + 2)) (i, a)).2.2.1 j) ∧ a2 = (fdS (xs (6 * t + 1)) (xs (6 * t + 2)) (i, a)).2.2.2) → va_P (dC, dI) vwCl ((va_pl L2 f2 ++ [(ou, .inl (co, 1, .inr (.inl fo2)))]) ++ mw gm m0 bm i2 a2) H → va_D (fun q : Nat => s.heap.size ≤ q) ((va_pl L2 f2 ++ [(ou, .inl (co, 1, .inr (.inl fo2)))]) ++ mw gm m0 bm i2 a2) → va_S (fun q : Nat => s.heap.size ≤ q) s.heap H locs → lv_has ls 7 [(4, .int (nI (6 * (t + 1)))), (3, .ref ou), (2, .ref m0), (1, .ref x0), (0, .ref b)] → W p l e room_1 s m #[Value.ref b] below meth c H locs (cells + 2) (slots + 12) Z (F0 m 23 ls [])) : W p l e room_1 s m #[Value.ref b] below meth c H locs cells slots Z (F0 m 23 ls []) := by
  obtain ⟨hx, hb, hr, hml, hown, hts, hX, hbl, hlocks, hgv⟩ := id C0
  have hown : s.vm.findClass RL = some m.cls := hown
  have hA : ∀ q : Nat, s.heap.size ≤ q → (fun q : Nat => s.heap.size ≤ q) q := fun _ h => h
  have hbA : ¬ (fun q : Nat => s.heap.size ≤ q) b := Nat.not_le.mpr hbl
  refine tn_feed hlt C0 hLn hev hK hI hP hD hS hl rfl ht hc hs hop (lo_feed hlt C0 hLn hev hK hI hP hD hS hl rfl ht hc hs ?_)
  intro L2 f2 fo2 i2 a2 H locs ls hI hR hP hD hS hl
  refine lv_iinc (v := nI (6 * (t + 1))) (lv' := [(4, .int (nI (6 * (t + 1)))), (3, .ref ou), (2, .ref m0), (1, .ref x0), (0, .ref b)]) hx hb dL_law_938 hl (k := 0) rfl (by show nI (6 * t) + nI 6 = nI (6 * (t + 1)); rw [nI_add]; exact congrArg nI (by omega)) (by decide) rfl (fun ls hl => ?_)
  refine lv_goto (tgt := 23) hx hb dL_law_941 (by decide) ?_
  exact hk L2 f2 fo2 i2 a2 H locs ls hI hR hP hD hS hl

set_option maxHeartbeats 4000000 in
set_option maxRecDepth 100000 in
theorem tn_lime {Z : State → Prop} {p : Program} {l : Launch} {e : Env} {s : State} {m : MethodId} {below : List Frame} {meth : Method} {c : Code} {b Ln : Nat} {xs : Nat → Int32} (hlt : l.stackTraces = false) (C0 : lw_At p s m meth c b Ln xs) (hLn : Ln ≤ 3072) {dC : Nat → ClassId} {dI : Nat → Nat → Nat} {sa : Nat → Nat} (hev : ev sa (fun q : Nat => s.heap.size ≤ q) s s.heap) {x0 rdr tok tp ka sta vaa wk vs cl ru pl tvr tc rc m0 ou : Nat} {va tv : Nat → Nat} {co : ClassId} {g gm bm : Nat → Nat} (hK : va_K (dC, dI) vwCl (tyG g ++ [(co, .long)] ++ tyM gm) s) {L : List Nat} {f : Nat → va_E} {fo : Nat → Int64} {i : Nat → Int32} {a : Nat → Nat → Int32} {H : Heap} {locs : List Loc} {ls : Array Slot} {cells slots t : Nat} {ii : Int32} (hI : LI g ((x0, rdr, tok, tp, ka, sta, vaa), (wk, vs, cl, ru, va), (pl, tvr, tc, tv), rc) ((10000 * t : Nat) : Int) L f i a) (hP : va_P (dC, dI) vwCl ((va_pl L f ++ [(ou, .inl (co, 1, .inr (.inl fo)))]) ++ mw gm m0 bm i a) H) (hD : va_D (fun q : Nat => s.heap.size ≤ q) ((va_pl L f ++ [(ou, .inl (co, 1, .inr (.inl fo)))]) ++ mw gm m0 bm i a)) (hS : va_S (fun q : Nat => s.heap.size ≤ q) s.heap H locs) (hl : lv_has ls 7 [(4, .int ii), (3, .ref ou), (2, .ref m0), (1, .ref x0), (0, .ref b)]) (hii : ii = nI (6 * t)) (ht : 6 * t + 6 ≤ Ln) (hc : cells + 2 ≤ 601024) (hs : slots + 12 ≤ 7293034) (hop : xs (6 * t) = 2) (hk : W p l e room_1 s m #[Value.ref b] below meth c H locs cells slots Z (F0 m 212 ls [])) : W p l e room_1 s m #[Value.ref b] below meth c H locs cells slots Z (F0 m 23 ls []) := by
  obtain ⟨hx, hb, hr, hml, hown, hts, hX, hbl, hlocks, hgv⟩ := id C0
  have hown : s.vm.findClass RL = some m.cls := hown
  have hA : ∀ q : Nat, s.heap.size ≤ q → (fun q : Nat => s.heap.size ≤ q) q := fun _ h => h
  have hbA : ¬ (fun q : Nat => s.heap.size ≤ q) b := Nat.not_le.mpr hbl
  refine lv_iload hx hb dL_law_23 (lv_at hl 0 rfl) ?_
  refine lv_aload_n hx hb dL_law_25 rfl (lv_at hl 4 rfl) ?_
  refine va_slen hx hb hX hbl hbA hS dL_law_26 ?_
  refine lv_topi (fun z_1 ez_1 => ?_)
  refine lv_bipush (v := 6) hx hb dL_law_27 (by decide) ?_
  refine lv_isub hx hb dL_law_29 ?_
  refine lv_topi (fun z_2 ez_2 => ?_)
  refine lv_icmp_gt (tgt := 944) hx hb dL_law_30 (by decide) (fun c_3 => absurd c_3 (sc_nl hii ez_1 ez_2 hLn ht)) (fun c_3 => ?_)
  refine lv_aload_n hx hb dL_law_33 rfl (lv_at hl 4 rfl) ?_
  refine lv_iload hx hb dL_law_34 (lv_at hl 0 rfl) ?_
  refine va_sld hx hb hX hbl hbA hS (sc_in0 hii ht hLn) dL_law_36 ?_
  refine lv_topi (fun z_4 ez_4 => ?_)
  refine lv_bipush (v := 31) hx hb dL_law_37 (by decide) ?_
  refine lv_iand hx hb dL_law_39 ?_
  refine lv_topi (fun z_5 ez_5 => ?_)
  have c_6 : z_5 = 2 := by rw [ez_5, ez_4, sc_0 (xs := xs) hii (by omega), hop]; decide
  refine lv_tableIn (tgt := 212) hx hb dL_law_40 (by rw [c_6]; decide) (by rw [c_6]; decide) (by rw [c_6]; rfl) (by decide) ?_
  exact hk

set_option maxHeartbeats 4000000 in
set_option maxRecDepth 100000 in
theorem sp_lime {Z : State → Prop} {p : Program} {l : Launch} {e : Env} {s : State} {m : MethodId} {below : List Frame} {meth : Method} {c : Code} {b Ln : Nat} {xs : Nat → Int32} (hlt : l.stackTraces = false) (C0 : lw_At p s m meth c b Ln xs) (hLn : Ln ≤ 3072) {dC : Nat → ClassId} {dI : Nat → Nat → Nat} {sa : Nat → Nat} (hev : ev sa (fun q : Nat => s.heap.size ≤ q) s s.heap) {x0 rdr tok tp ka sta vaa wk vs cl ru pl tvr tc rc m0 ou : Nat} {va tv : Nat → Nat} {co : ClassId} {g gm bm : Nat → Nat} (hK : va_K (dC, dI) vwCl (tyG g ++ [(co, .long)] ++ tyM gm) s) {L : List Nat} {f : Nat → va_E} {fo : Nat → Int64} {i : Nat → Int32} {a : Nat → Nat → Int32} {H : Heap} {locs : List Loc} {ls : Array Slot} {cells slots t : Nat}  (hI : LI g ((x0, rdr, tok, tp, ka, sta, vaa), (wk, vs, cl, ru, va), (pl, tvr, tc, tv), rc) ((10000 * t : Nat) : Int) L f i a) (hP : va_P (dC, dI) vwCl ((va_pl L f ++ [(ou, .inl (co, 1, .inr (.inl fo)))]) ++ mw gm m0 bm i a) H) (hD : va_D (fun q : Nat => s.heap.size ≤ q) ((va_pl L f ++ [(ou, .inl (co, 1, .inr (.inl fo)))]) ++ mw gm m0 bm i a)) (hS : va_S (fun q : Nat => s.heap.size ≤ q) s.heap H locs) (hl : lv_has ls 7 [(4, .int (nI (6 * t))), (3, .ref ou), (2, .ref m0), (1, .ref x0), (0, .ref b)]) (ht : 6 * t + 6 ≤ Ln) (hc : cells + 2 ≤ 601024) (hs : slots + 12 ≤ 7293034) (hop : xs (6 * t) = 2) (hk : ∀ (L2 : List Nat) (f2 : Nat → va_E) (fo2 : Nat → Int64) (i2 : Nat → Int32) (a2 : Nat → Nat → Int32) (H : Heap) (locs : List Loc) (ls : Array Slot), LI g ((x0, rdr, tok, tp, ka, sta, vaa), (wk, vs, cl, ru, va), (pl, tvr, tc, tv), rc) ((10000 * (t + 1) : Nat) : Int) L2 f2 i2 a2 → ((∀ j : Nat, j ≠ 0 → i2 j = (lmS (xs (6 * t + 1)) (i, a)).2.2.1 j) ∧ a2 = (lmS (xs (6 * t + 1)) (i, a)).2.2.2) → va_P (dC, dI) vwCl ((va_pl L2 f2 ++ [(ou, .inl (co, 1, .inr (.inl fo2)))]) ++ mw gm m0 bm i2 a2) H → va_D (fun q : Nat => s.heap.size ≤ q) ((va_pl L2 f2 ++ [(ou, .inl (co, 1, .inr (.inl fo2)))]) ++ mw gm m0 bm i2 a2) → va_S (fun q : Nat => s.heap.size ≤ q) s.heap H locs → lv_has ls 7 [(4, .int (nI (6 * (t + 1)))), (3, .ref ou), (2, .ref m0), (1, .ref x0), (0, .ref b)] → W p l e room_1 s m #[Value.ref b] below meth c H locs (cells + 2) (slots + 12) Z (F0 m 23 ls [])) : W p l e room_1 s m #[Value.ref b] below meth c H locs cells slots Z (F0 m 23 ls []) := by
  obtain ⟨hx, hb, hr, hml, hown, hts, hX, hbl, hlocks, hgv⟩ := id C0
  have hown : s.vm.findClass RL = some m.cls := hown
  have hA : ∀ q : Nat, s.heap.size ≤ q → (fun q : Nat => s.heap.size ≤ q) q := fun _ h => h
  have hbA : ¬ (fun q : Nat => s.heap.size ≤ q) b := Nat.not_le.mpr hbl
  refine tn_lime hlt C0 hLn hev hK hI hP hD hS hl rfl ht hc hs hop (lo_lime hlt C0 hLn hev hK hI hP hD hS hl rfl ht hc hs ?_)
  intro L2 f2 fo2 i2 a2 H locs ls hI hR hP hD hS hl
  refine lv_iinc (v := nI (6 * (t + 1))) (lv' := [(4, .int (nI (6 * (t + 1)))), (3, .ref ou), (2, .ref m0), (1, .ref x0), (0, .ref b)]) hx hb dL_law_938 hl (k := 0) rfl (by show nI (6 * t) + nI 6 = nI (6 * (t + 1)); rw [nI_add]; exact congrArg nI (by omega)) (by decide) rfl (fun ls hl => ?_)
  refine lv_goto (tgt := 23) hx hb dL_law_941 (by decide) ?_
  exact hk L2 f2 fo2 i2 a2 H locs ls hI hR hP hD hS hl

set_option maxHeartbeats 4000000 in
set_option maxRecDepth 100000 in
theorem tn_treat {Z : State → Prop} {p : Program} {l : Launch} {e : Env} {s : State} {m : MethodId} {below : List Frame} {meth : Method} {c : Code} {b Ln : Nat} {xs : Nat → Int32} (hlt : l.stackTraces = false) (C0 : lw_At p s m meth c b Ln xs) (hLn : Ln ≤ 3072) {dC : Nat → ClassId} {dI : Nat → Nat → Nat} {sa : Nat → Nat} (hev : ev sa (fun q : Nat => s.heap.size ≤ q) s s.heap) {x0 rdr tok tp ka sta vaa wk vs cl ru pl tvr tc rc m0 ou : Nat} {va tv : Nat → Nat} {co : ClassId} {g gm bm : Nat → Nat} (hK : va_K (dC, dI) vwCl (tyG g ++ [(co, .long)] ++ tyM gm) s) {L : List Nat} {f : Nat → va_E} {fo : Nat → Int64} {i : Nat → Int32} {a : Nat → Nat → Int32} {H : Heap} {locs : List Loc} {ls : Array Slot} {cells slots t : Nat} {ii : Int32} (hI : LI g ((x0, rdr, tok, tp, ka, sta, vaa), (wk, vs, cl, ru, va), (pl, tvr, tc, tv), rc) ((10000 * t : Nat) : Int) L f i a) (hP : va_P (dC, dI) vwCl ((va_pl L f ++ [(ou, .inl (co, 1, .inr (.inl fo)))]) ++ mw gm m0 bm i a) H) (hD : va_D (fun q : Nat => s.heap.size ≤ q) ((va_pl L f ++ [(ou, .inl (co, 1, .inr (.inl fo)))]) ++ mw gm m0 bm i a)) (hS : va_S (fun q : Nat => s.heap.size ≤ q) s.heap H locs) (hl : lv_has ls 7 [(4, .int ii), (3, .ref ou), (2, .ref m0), (1, .ref x0), (0, .ref b)]) (hii : ii = nI (6 * t)) (ht : 6 * t + 6 ≤ Ln) (hc : cells + 2 ≤ 601024) (hs : slots + 12 ≤ 7293034) (hop : xs (6 * t) = 6) (hk : W p l e room_1 s m #[Value.ref b] below meth c H locs cells slots Z (F0 m 345 ls [])) : W p l e room_1 s m #[Value.ref b] below meth c H locs cells slots Z (F0 m 23 ls []) := by
  obtain ⟨hx, hb, hr, hml, hown, hts, hX, hbl, hlocks, hgv⟩ := id C0
  have hown : s.vm.findClass RL = some m.cls := hown
  have hA : ∀ q : Nat, s.heap.size ≤ q → (fun q : Nat => s.heap.size ≤ q) q := fun _ h => h
  have hbA : ¬ (fun q : Nat => s.heap.size ≤ q) b := Nat.not_le.mpr hbl
  refine lv_iload hx hb dL_law_23 (lv_at hl 0 rfl) ?_
  refine lv_aload_n hx hb dL_law_25 rfl (lv_at hl 4 rfl) ?_
  refine va_slen hx hb hX hbl hbA hS dL_law_26 ?_
  refine lv_topi (fun z_1 ez_1 => ?_)
  refine lv_bipush (v := 6) hx hb dL_law_27 (by decide) ?_
  refine lv_isub hx hb dL_law_29 ?_
  refine lv_topi (fun z_2 ez_2 => ?_)
  refine lv_icmp_gt (tgt := 944) hx hb dL_law_30 (by decide) (fun c_3 => absurd c_3 (sc_nl hii ez_1 ez_2 hLn ht)) (fun c_3 => ?_)
  refine lv_aload_n hx hb dL_law_33 rfl (lv_at hl 4 rfl) ?_
  refine lv_iload hx hb dL_law_34 (lv_at hl 0 rfl) ?_
  refine va_sld hx hb hX hbl hbA hS (sc_in0 hii ht hLn) dL_law_36 ?_
  refine lv_topi (fun z_4 ez_4 => ?_)
  refine lv_bipush (v := 31) hx hb dL_law_37 (by decide) ?_
  refine lv_iand hx hb dL_law_39 ?_
  refine lv_topi (fun z_5 ez_5 => ?_)
  have c_6 : z_5 = 6 := by rw [ez_5, ez_4, sc_0 (xs := xs) hii (by omega), hop]; decide
  refine lv_tableIn (tgt := 345) hx hb dL_law_40 (by rw [c_6]; decide) (by rw [c_6]; decide) (by rw [c_6]; rfl) (by decide) ?_
  exact hk

set_option maxHeartbeats 4000000 in
set_option maxRecDepth 100000 in
theorem sp_treat {Z : State → Prop} {p : Program} {l : Launch} {e : Env} {s : State} {m : MethodId} {below : List Frame} {meth : Method} {c : Code} {b Ln : Nat} {xs : Nat → Int32} (hlt : l.stackTraces = false) (C0 : lw_At p s m meth c b Ln xs) (hLn : Ln ≤ 3072) {dC : Nat → ClassId} {dI : Nat → Nat → Nat} {sa : Nat → Nat} (hev : ev sa (fun q : Nat => s.heap.size ≤ q) s s.heap) {x0 rdr tok tp ka sta vaa wk vs cl ru pl tvr tc rc m0 ou : Nat} {va tv : Nat → Nat} {co : ClassId} {g gm bm : Nat → Nat} (hK : va_K (dC, dI) vwCl (tyG g ++ [(co, .long)] ++ tyM gm) s) {L : List Nat} {f : Nat → va_E} {fo : Nat → Int64} {i : Nat → Int32} {a : Nat → Nat → Int32} {H : Heap} {locs : List Loc} {ls : Array Slot} {cells slots t : Nat}  (hI : LI g ((x0, rdr, tok, tp, ka, sta, vaa), (wk, vs, cl, ru, va), (pl, tvr, tc, tv), rc) ((10000 * t : Nat) : Int) L f i a) (hP : va_P (dC, dI) vwCl ((va_pl L f ++ [(ou, .inl (co, 1, .inr (.inl fo)))]) ++ mw gm m0 bm i a) H) (hD : va_D (fun q : Nat => s.heap.size ≤ q) ((va_pl L f ++ [(ou, .inl (co, 1, .inr (.inl fo)))]) ++ mw gm m0 bm i a)) (hS : va_S (fun q : Nat => s.heap.size ≤ q) s.heap H locs) (hl : lv_has ls 7 [(4, .int (nI (6 * t))), (3, .ref ou), (2, .ref m0), (1, .ref x0), (0, .ref b)]) (ht : 6 * t + 6 ≤ Ln) (hc : cells + 2 ≤ 601024) (hs : slots + 12 ≤ 7293034) (hop : xs (6 * t) = 6) (hk : ∀ (L2 : List Nat) (f2 : Nat → va_E) (fo2 : Nat → Int64) (i2 : Nat → Int32) (a2 : Nat → Nat → Int32) (H : Heap) (locs : List Loc) (ls : Array Slot), LI g ((x0, rdr, tok, tp, ka, sta, vaa), (wk, vs, cl, ru, va), (pl, tvr, tc, tv), rc) ((10000 * (t + 1) : Nat) : Int) L2 f2 i2 a2 → ((∀ j : Nat, j ≠ 0 → i2 j = (trS (xs (6 * t + 1)) (xs (6 * t + 2)) (i, a)).2.2.1 j) ∧ a2 = (trS (xs (6 * t + 1)) (xs (6 * t + 2)) (i, a)).2.2.2) → va_P (dC, dI) vwCl ((va_pl L2 f2 ++ [(ou, .inl (co, 1, .inr (.inl fo2)))]) ++ mw gm m0 bm i2 a2) H → va_D (fun q : Nat => s.heap.size ≤ q) ((va_pl L2 f2 ++ [(ou, .inl (co, 1, .inr (.inl fo2)))]) ++ mw gm m0 bm i2 a2) → va_S (fun q : Nat => s.heap.size ≤ q) s.heap H locs → lv_has ls 7 [(4, .int (nI (6 * (t + 1)))), (3, .ref ou), (2, .ref m0), (1, .ref x0), (0, .ref b)] → W p l e room_1 s m #[Value.ref b] below meth c H locs (cells + 2) (slots + 12) Z (F0 m 23 ls [])) : W p l e room_1 s m #[Value.ref b] below meth c H locs cells slots Z (F0 m 23 ls []) := by
  obtain ⟨hx, hb, hr, hml, hown, hts, hX, hbl, hlocks, hgv⟩ := id C0
  have hown : s.vm.findClass RL = some m.cls := hown
  have hA : ∀ q : Nat, s.heap.size ≤ q → (fun q : Nat => s.heap.size ≤ q) q := fun _ h => h
  have hbA : ¬ (fun q : Nat => s.heap.size ≤ q) b := Nat.not_le.mpr hbl
  refine tn_treat hlt C0 hLn hev hK hI hP hD hS hl rfl ht hc hs hop (lo_treat hlt C0 hLn hev hK hI hP hD hS hl rfl ht hc hs ?_)
  intro L2 f2 fo2 i2 a2 H locs ls hI hR hP hD hS hl
  refine lv_iinc (v := nI (6 * (t + 1))) (lv' := [(4, .int (nI (6 * (t + 1)))), (3, .ref ou), (2, .ref m0), (1, .ref x0), (0, .ref b)]) hx hb dL_law_938 hl (k := 0) rfl (by show nI (6 * t) + nI 6 = nI (6 * (t + 1)); rw [nI_add]; exact congrArg nI (by omega)) (by decide) rfl (fun ls hl => ?_)
  refine lv_goto (tgt := 23) hx hb dL_law_941 (by decide) ?_
  exact hk L2 f2 fo2 i2 a2 H locs ls hI hR hP hD hS hl

set_option maxHeartbeats 4000000 in
set_option maxRecDepth 100000 in
theorem tn_cloth {Z : State → Prop} {p : Program} {l : Launch} {e : Env} {s : State} {m : MethodId} {below : List Frame} {meth : Method} {c : Code} {b Ln : Nat} {xs : Nat → Int32} (hlt : l.stackTraces = false) (C0 : lw_At p s m meth c b Ln xs) (hLn : Ln ≤ 3072) {dC : Nat → ClassId} {dI : Nat → Nat → Nat} {sa : Nat → Nat} (hev : ev sa (fun q : Nat => s.heap.size ≤ q) s s.heap) {x0 rdr tok tp ka sta vaa wk vs cl ru pl tvr tc rc m0 ou : Nat} {va tv : Nat → Nat} {co : ClassId} {g gm bm : Nat → Nat} (hK : va_K (dC, dI) vwCl (tyG g ++ [(co, .long)] ++ tyM gm) s) {L : List Nat} {f : Nat → va_E} {fo : Nat → Int64} {i : Nat → Int32} {a : Nat → Nat → Int32} {H : Heap} {locs : List Loc} {ls : Array Slot} {cells slots t : Nat} {ii : Int32} (hI : LI g ((x0, rdr, tok, tp, ka, sta, vaa), (wk, vs, cl, ru, va), (pl, tvr, tc, tv), rc) ((10000 * t : Nat) : Int) L f i a) (hP : va_P (dC, dI) vwCl ((va_pl L f ++ [(ou, .inl (co, 1, .inr (.inl fo)))]) ++ mw gm m0 bm i a) H) (hD : va_D (fun q : Nat => s.heap.size ≤ q) ((va_pl L f ++ [(ou, .inl (co, 1, .inr (.inl fo)))]) ++ mw gm m0 bm i a)) (hS : va_S (fun q : Nat => s.heap.size ≤ q) s.heap H locs) (hl : lv_has ls 7 [(4, .int ii), (3, .ref ou), (2, .ref m0), (1, .ref x0), (0, .ref b)]) (hii : ii = nI (6 * t)) (ht : 6 * t + 6 ≤ Ln) (hc : cells + 2 ≤ 601024) (hs : slots + 12 ≤ 7293034) (hop : xs (6 * t) = 4) (hk : W p l e room_1 s m #[Value.ref b] below meth c H locs cells slots Z (F0 m 268 ls [])) : W p l e room_1 s m #[Value.ref b] below meth c H locs cells slots Z (F0 m 23 ls []) := by
  obtain ⟨hx, hb, hr, hml, hown, hts, hX, hbl, hlocks, hgv⟩ := id C0
  have hown : s.vm.findClass RL = some m.cls := hown
  have hA : ∀ q : Nat, s.heap.size ≤ q → (fun q : Nat => s.heap.size ≤ q) q := fun _ h => h
  have hbA : ¬ (fun q : Nat => s.heap.size ≤ q) b := Nat.not_le.mpr hbl
  refine lv_iload hx hb dL_law_23 (lv_at hl 0 rfl) ?_
  refine lv_aload_n hx hb dL_law_25 rfl (lv_at hl 4 rfl) ?_
  refine va_slen hx hb hX hbl hbA hS dL_law_26 ?_
  refine lv_topi (fun z_1 ez_1 => ?_)
  refine lv_bipush (v := 6) hx hb dL_law_27 (by decide) ?_
  refine lv_isub hx hb dL_law_29 ?_
  refine lv_topi (fun z_2 ez_2 => ?_)
  refine lv_icmp_gt (tgt := 944) hx hb dL_law_30 (by decide) (fun c_3 => absurd c_3 (sc_nl hii ez_1 ez_2 hLn ht)) (fun c_3 => ?_)
  refine lv_aload_n hx hb dL_law_33 rfl (lv_at hl 4 rfl) ?_
  refine lv_iload hx hb dL_law_34 (lv_at hl 0 rfl) ?_
  refine va_sld hx hb hX hbl hbA hS (sc_in0 hii ht hLn) dL_law_36 ?_
  refine lv_topi (fun z_4 ez_4 => ?_)
  refine lv_bipush (v := 31) hx hb dL_law_37 (by decide) ?_
  refine lv_iand hx hb dL_law_39 ?_
  refine lv_topi (fun z_5 ez_5 => ?_)
  have c_6 : z_5 = 4 := by rw [ez_5, ez_4, sc_0 (xs := xs) hii (by omega), hop]; decide
  refine lv_tableIn (tgt := 268) hx hb dL_law_40 (by rw [c_6]; decide) (by rw [c_6]; decide) (by rw [c_6]; rfl) (by decide) ?_
  exact hk

set_option maxHeartbeats 4000000 in
set_option maxRecDepth 100000 in
theorem sp_cloth {Z : State → Prop} {p : Program} {l : Launch} {e : Env} {s : State} {m : MethodId} {below : List Frame} {meth : Method} {c : Code} {b Ln : Nat} {xs : Nat → Int32} (hlt : l.stackTraces = false) (C0 : lw_At p s m meth c b Ln xs) (hLn : Ln ≤ 3072) {dC : Nat → ClassId} {dI : Nat → Nat → Nat} {sa : Nat → Nat} (hev : ev sa (fun q : Nat => s.heap.size ≤ q) s s.heap) {x0 rdr tok tp ka sta vaa wk vs cl ru pl tvr tc rc m0 ou : Nat} {va tv : Nat → Nat} {co : ClassId} {g gm bm : Nat → Nat} (hK : va_K (dC, dI) vwCl (tyG g ++ [(co, .long)] ++ tyM gm) s) {L : List Nat} {f : Nat → va_E} {fo : Nat → Int64} {i : Nat → Int32} {a : Nat → Nat → Int32} {H : Heap} {locs : List Loc} {ls : Array Slot} {cells slots t : Nat}  (hI : LI g ((x0, rdr, tok, tp, ka, sta, vaa), (wk, vs, cl, ru, va), (pl, tvr, tc, tv), rc) ((10000 * t : Nat) : Int) L f i a) (hP : va_P (dC, dI) vwCl ((va_pl L f ++ [(ou, .inl (co, 1, .inr (.inl fo)))]) ++ mw gm m0 bm i a) H) (hD : va_D (fun q : Nat => s.heap.size ≤ q) ((va_pl L f ++ [(ou, .inl (co, 1, .inr (.inl fo)))]) ++ mw gm m0 bm i a)) (hS : va_S (fun q : Nat => s.heap.size ≤ q) s.heap H locs) (hl : lv_has ls 7 [(4, .int (nI (6 * t))), (3, .ref ou), (2, .ref m0), (1, .ref x0), (0, .ref b)]) (ht : 6 * t + 6 ≤ Ln) (hc : cells + 2 ≤ 601024) (hs : slots + 12 ≤ 7293034) (hop : xs (6 * t) = 4) (hk : ∀ (L2 : List Nat) (f2 : Nat → va_E) (fo2 : Nat → Int64) (i2 : Nat → Int32) (a2 : Nat → Nat → Int32) (H : Heap) (locs : List Loc) (ls : Array Slot), LI g ((x0, rdr, tok, tp, ka, sta, vaa), (wk, vs, cl, ru, va), (pl, tvr, tc, tv), rc) ((10000 * (t + 1) : Nat) : Int) L2 f2 i2 a2 → ((∀ j : Nat, j ≠ 0 → i2 j = (clS (xs (6 * t + 1)) (i, a)).2.2.1 j) ∧ a2 = (clS (xs (6 * t + 1)) (i, a)).2.2.2) → va_P (dC, dI) vwCl ((va_pl L2 f2 ++ [(ou, .inl (co, 1, .inr (.inl fo2)))]) ++ mw gm m0 bm i2 a2) H → va_D (fun q : Nat => s.heap.size ≤ q) ((va_pl L2 f2 ++ [(ou, .inl (co, 1, .inr (.inl fo2)))]) ++ mw gm m0 bm i2 a2) → va_S (fun q : Nat => s.heap.size ≤ q) s.heap H locs → lv_has ls 7 [(4, .int (nI (6 * (t + 1)))), (3, .ref ou), (2, .ref m0), (1, .ref x0), (0, .ref b)] → W p l e room_1 s m #[Value.ref b] below meth c H locs (cells + 2) (slots + 12) Z (F0 m 23 ls [])) : W p l e room_1 s m #[Value.ref b] below meth c H locs cells slots Z (F0 m 23 ls []) := by
  obtain ⟨hx, hb, hr, hml, hown, hts, hX, hbl, hlocks, hgv⟩ := id C0
  have hown : s.vm.findClass RL = some m.cls := hown
  have hA : ∀ q : Nat, s.heap.size ≤ q → (fun q : Nat => s.heap.size ≤ q) q := fun _ h => h
  have hbA : ¬ (fun q : Nat => s.heap.size ≤ q) b := Nat.not_le.mpr hbl
  refine tn_cloth hlt C0 hLn hev hK hI hP hD hS hl rfl ht hc hs hop (lo_cloth hlt C0 hLn hev hK hI hP hD hS hl rfl ht hc hs ?_)
  intro L2 f2 fo2 i2 a2 H locs ls hI hR hP hD hS hl
  refine lv_iinc (v := nI (6 * (t + 1))) (lv' := [(4, .int (nI (6 * (t + 1)))), (3, .ref ou), (2, .ref m0), (1, .ref x0), (0, .ref b)]) hx hb dL_law_938 hl (k := 0) rfl (by show nI (6 * t) + nI 6 = nI (6 * (t + 1)); rw [nI_add]; exact congrArg nI (by omega)) (by decide) rfl (fun ls hl => ?_)
  refine lv_goto (tgt := 23) hx hb dL_law_941 (by decide) ?_
  exact hk L2 f2 fo2 i2 a2 H locs ls hI hR hP hD hS hl

set_option maxHeartbeats 4000000 in
set_option maxRecDepth 100000 in
theorem tn_plan {Z : State → Prop} {p : Program} {l : Launch} {e : Env} {s : State} {m : MethodId} {below : List Frame} {meth : Method} {c : Code} {b Ln : Nat} {xs : Nat → Int32} (hlt : l.stackTraces = false) (C0 : lw_At p s m meth c b Ln xs) (hLn : Ln ≤ 3072) {dC : Nat → ClassId} {dI : Nat → Nat → Nat} {sa : Nat → Nat} (hev : ev sa (fun q : Nat => s.heap.size ≤ q) s s.heap) {x0 rdr tok tp ka sta vaa wk vs cl ru pl tvr tc rc m0 ou : Nat} {va tv : Nat → Nat} {co : ClassId} {g gm bm : Nat → Nat} (hK : va_K (dC, dI) vwCl (tyG g ++ [(co, .long)] ++ tyM gm) s) {L : List Nat} {f : Nat → va_E} {fo : Nat → Int64} {i : Nat → Int32} {a : Nat → Nat → Int32} {H : Heap} {locs : List Loc} {ls : Array Slot} {cells slots t : Nat} {ii : Int32} (hI : LI g ((x0, rdr, tok, tp, ka, sta, vaa), (wk, vs, cl, ru, va), (pl, tvr, tc, tv), rc) ((10000 * t : Nat) : Int) L f i a) (hP : va_P (dC, dI) vwCl ((va_pl L f ++ [(ou, .inl (co, 1, .inr (.inl fo)))]) ++ mw gm m0 bm i a) H) (hD : va_D (fun q : Nat => s.heap.size ≤ q) ((va_pl L f ++ [(ou, .inl (co, 1, .inr (.inl fo)))]) ++ mw gm m0 bm i a)) (hS : va_S (fun q : Nat => s.heap.size ≤ q) s.heap H locs) (hl : lv_has ls 7 [(4, .int ii), (3, .ref ou), (2, .ref m0), (1, .ref x0), (0, .ref b)]) (hii : ii = nI (6 * t)) (ht : 6 * t + 6 ≤ Ln) (hc : cells + 2 ≤ 601024) (hs : slots + 12 ≤ 7293034) (hop : xs (6 * t) = 12) (hk : W p l e room_1 s m #[Value.ref b] below meth c H locs cells slots Z (F0 m 606 ls [])) : W p l e room_1 s m #[Value.ref b] below meth c H locs cells slots Z (F0 m 23 ls []) := by
  obtain ⟨hx, hb, hr, hml, hown, hts, hX, hbl, hlocks, hgv⟩ := id C0
  have hown : s.vm.findClass RL = some m.cls := hown
  have hA : ∀ q : Nat, s.heap.size ≤ q → (fun q : Nat => s.heap.size ≤ q) q := fun _ h => h
  have hbA : ¬ (fun q : Nat => s.heap.size ≤ q) b := Nat.not_le.mpr hbl
  refine lv_iload hx hb dL_law_23 (lv_at hl 0 rfl) ?_
  refine lv_aload_n hx hb dL_law_25 rfl (lv_at hl 4 rfl) ?_
  refine va_slen hx hb hX hbl hbA hS dL_law_26 ?_
  refine lv_topi (fun z_1 ez_1 => ?_)
  refine lv_bipush (v := 6) hx hb dL_law_27 (by decide) ?_
  refine lv_isub hx hb dL_law_29 ?_
  refine lv_topi (fun z_2 ez_2 => ?_)
  refine lv_icmp_gt (tgt := 944) hx hb dL_law_30 (by decide) (fun c_3 => absurd c_3 (sc_nl hii ez_1 ez_2 hLn ht)) (fun c_3 => ?_)
  refine lv_aload_n hx hb dL_law_33 rfl (lv_at hl 4 rfl) ?_
  refine lv_iload hx hb dL_law_34 (lv_at hl 0 rfl) ?_
  refine va_sld hx hb hX hbl hbA hS (sc_in0 hii ht hLn) dL_law_36 ?_
  refine lv_topi (fun z_4 ez_4 => ?_)
  refine lv_bipush (v := 31) hx hb dL_law_37 (by decide) ?_
  refine lv_iand hx hb dL_law_39 ?_
  refine lv_topi (fun z_5 ez_5 => ?_)
  have c_6 : z_5 = 12 := by rw [ez_5, ez_4, sc_0 (xs := xs) hii (by omega), hop]; decide
  refine lv_tableIn (tgt := 606) hx hb dL_law_40 (by rw [c_6]; decide) (by rw [c_6]; decide) (by rw [c_6]; rfl) (by decide) ?_
  exact hk

set_option maxHeartbeats 4000000 in
set_option maxRecDepth 100000 in
theorem sp_plan {Z : State → Prop} {p : Program} {l : Launch} {e : Env} {s : State} {m : MethodId} {below : List Frame} {meth : Method} {c : Code} {b Ln : Nat} {xs : Nat → Int32} (hlt : l.stackTraces = false) (C0 : lw_At p s m meth c b Ln xs) (hLn : Ln ≤ 3072) {dC : Nat → ClassId} {dI : Nat → Nat → Nat} {sa : Nat → Nat} (hev : ev sa (fun q : Nat => s.heap.size ≤ q) s s.heap) {x0 rdr tok tp ka sta vaa wk vs cl ru pl tvr tc rc m0 ou : Nat} {va tv : Nat → Nat} {co : ClassId} {g gm bm : Nat → Nat} (hK : va_K (dC, dI) vwCl (tyG g ++ [(co, .long)] ++ tyM gm) s) {L : List Nat} {f : Nat → va_E} {fo : Nat → Int64} {i : Nat → Int32} {a : Nat → Nat → Int32} {H : Heap} {locs : List Loc} {ls : Array Slot} {cells slots t : Nat}  (hI : LI g ((x0, rdr, tok, tp, ka, sta, vaa), (wk, vs, cl, ru, va), (pl, tvr, tc, tv), rc) ((10000 * t : Nat) : Int) L f i a) (hP : va_P (dC, dI) vwCl ((va_pl L f ++ [(ou, .inl (co, 1, .inr (.inl fo)))]) ++ mw gm m0 bm i a) H) (hD : va_D (fun q : Nat => s.heap.size ≤ q) ((va_pl L f ++ [(ou, .inl (co, 1, .inr (.inl fo)))]) ++ mw gm m0 bm i a)) (hS : va_S (fun q : Nat => s.heap.size ≤ q) s.heap H locs) (hl : lv_has ls 7 [(4, .int (nI (6 * t))), (3, .ref ou), (2, .ref m0), (1, .ref x0), (0, .ref b)]) (ht : 6 * t + 6 ≤ Ln) (hc : cells + 2 ≤ 601024) (hs : slots + 12 ≤ 7293034) (hop : xs (6 * t) = 12) {kq : Int32} (hkq : rd f pl 5 = .int kq) (hk : ∀ (L2 : List Nat) (f2 : Nat → va_E) (fo2 : Nat → Int64) (i2 : Nat → Int32) (a2 : Nat → Nat → Int32) (H : Heap) (locs : List Loc) (ls : Array Slot), LI g ((x0, rdr, tok, tp, ka, sta, vaa), (wk, vs, cl, ru, va), (pl, tvr, tc, tv), rc) ((10000 * (t + 1) : Nat) : Int) L2 f2 i2 a2 → ((∀ j : Nat, j ≠ 0 → j ≠ 46 → i2 j = i j) ∧ (∀ j : Nat, j < 36 → a2 j = a j) ∧ ∃ o8 : OP, plS (xs (6 * t + 1)) (xs (6 * t + 2)) (xs (6 * t + 3)) (xs (6 * t + 4)) (i, a) o8 ∧ (o8.1 = 0 → (o8.2.1 = -1 → i2 46 = 0) ∧ ∃ k5 : Int32, rd f2 pl 5 = .int k5 ∧ (¬ a 16 (xs (6 * t + 1)).toNatClampNeg = -1 → k5 = kq) ∧ (a 16 (xs (6 * t + 1)).toNatClampNeg = -1 → (o8.2.1 = -1 ∧ k5 = 0) ∨ o8.2.1 = k5))) → va_P (dC, dI) vwCl ((va_pl L2 f2 ++ [(ou, .inl (co, 1, .inr (.inl fo2)))]) ++ mw gm m0 bm i2 a2) H → va_D (fun q : Nat => s.heap.size ≤ q) ((va_pl L2 f2 ++ [(ou, .inl (co, 1, .inr (.inl fo2)))]) ++ mw gm m0 bm i2 a2) → va_S (fun q : Nat => s.heap.size ≤ q) s.heap H locs → lv_has ls 7 [(4, .int (nI (6 * (t + 1)))), (3, .ref ou), (2, .ref m0), (1, .ref x0), (0, .ref b)] → W p l e room_1 s m #[Value.ref b] below meth c H locs (cells + 2) (slots + 12) Z (F0 m 23 ls [])) : W p l e room_1 s m #[Value.ref b] below meth c H locs cells slots Z (F0 m 23 ls []) := by
  obtain ⟨hx, hb, hr, hml, hown, hts, hX, hbl, hlocks, hgv⟩ := id C0
  have hown : s.vm.findClass RL = some m.cls := hown
  have hA : ∀ q : Nat, s.heap.size ≤ q → (fun q : Nat => s.heap.size ≤ q) q := fun _ h => h
  have hbA : ¬ (fun q : Nat => s.heap.size ≤ q) b := Nat.not_le.mpr hbl
  refine tn_plan hlt C0 hLn hev hK hI hP hD hS hl rfl ht hc hs hop (lo_plan hlt C0 hLn hev hK hI hP hD hS hl rfl ht hc hs hkq ?_)
  intro L2 f2 fo2 i2 a2 H locs ls hI hR hP hD hS hl
  refine lv_iinc (v := nI (6 * (t + 1))) (lv' := [(4, .int (nI (6 * (t + 1)))), (3, .ref ou), (2, .ref m0), (1, .ref x0), (0, .ref b)]) hx hb dL_law_938 hl (k := 0) rfl (by show nI (6 * t) + nI 6 = nI (6 * (t + 1)); rw [nI_add]; exact congrArg nI (by omega)) (by decide) rfl (fun ls hl => ?_)
  refine lv_goto (tgt := 23) hx hb dL_law_941 (by decide) ?_
  exact hk L2 f2 fo2 i2 a2 H locs ls hI hR hP hD hS hl

set_option maxHeartbeats 4000000 in
set_option maxRecDepth 100000 in
theorem tn_planned {Z : State → Prop} {p : Program} {l : Launch} {e : Env} {s : State} {m : MethodId} {below : List Frame} {meth : Method} {c : Code} {b Ln : Nat} {xs : Nat → Int32} (hlt : l.stackTraces = false) (C0 : lw_At p s m meth c b Ln xs) (hLn : Ln ≤ 3072) {dC : Nat → ClassId} {dI : Nat → Nat → Nat} {sa : Nat → Nat} (hev : ev sa (fun q : Nat => s.heap.size ≤ q) s s.heap) {x0 rdr tok tp ka sta vaa wk vs cl ru pl tvr tc rc m0 ou : Nat} {va tv : Nat → Nat} {co : ClassId} {g gm bm : Nat → Nat} (hK : va_K (dC, dI) vwCl (tyG g ++ [(co, .long)] ++ tyM gm) s) {L : List Nat} {f : Nat → va_E} {fo : Nat → Int64} {i : Nat → Int32} {a : Nat → Nat → Int32} {H : Heap} {locs : List Loc} {ls : Array Slot} {cells slots t : Nat} {ii : Int32} (hI : LI g ((x0, rdr, tok, tp, ka, sta, vaa), (wk, vs, cl, ru, va), (pl, tvr, tc, tv), rc) ((10000 * t : Nat) : Int) L f i a) (hP : va_P (dC, dI) vwCl ((va_pl L f ++ [(ou, .inl (co, 1, .inr (.inl fo)))]) ++ mw gm m0 bm i a) H) (hD : va_D (fun q : Nat => s.heap.size ≤ q) ((va_pl L f ++ [(ou, .inl (co, 1, .inr (.inl fo)))]) ++ mw gm m0 bm i a)) (hS : va_S (fun q : Nat => s.heap.size ≤ q) s.heap H locs) (hl : lv_has ls 7 [(4, .int ii), (3, .ref ou), (2, .ref m0), (1, .ref x0), (0, .ref b)]) (hii : ii = nI (6 * t)) (ht : 6 * t + 6 ≤ Ln) (hc : cells + 2 ≤ 601024) (hs : slots + 12 ≤ 7293034) (hop : xs (6 * t) = 13) (hk : W p l e room_1 s m #[Value.ref b] below meth c H locs cells slots Z (F0 m 670 ls [])) : W p l e room_1 s m #[Value.ref b] below meth c H locs cells slots Z (F0 m 23 ls []) := by
  obtain ⟨hx, hb, hr, hml, hown, hts, hX, hbl, hlocks, hgv⟩ := id C0
  have hown : s.vm.findClass RL = some m.cls := hown
  have hA : ∀ q : Nat, s.heap.size ≤ q → (fun q : Nat => s.heap.size ≤ q) q := fun _ h => h
  have hbA : ¬ (fun q : Nat => s.heap.size ≤ q) b := Nat.not_le.mpr hbl
  refine lv_iload hx hb dL_law_23 (lv_at hl 0 rfl) ?_
  refine lv_aload_n hx hb dL_law_25 rfl (lv_at hl 4 rfl) ?_
  refine va_slen hx hb hX hbl hbA hS dL_law_26 ?_
  refine lv_topi (fun z_1 ez_1 => ?_)
  refine lv_bipush (v := 6) hx hb dL_law_27 (by decide) ?_
  refine lv_isub hx hb dL_law_29 ?_
  refine lv_topi (fun z_2 ez_2 => ?_)
  refine lv_icmp_gt (tgt := 944) hx hb dL_law_30 (by decide) (fun c_3 => absurd c_3 (sc_nl hii ez_1 ez_2 hLn ht)) (fun c_3 => ?_)
  refine lv_aload_n hx hb dL_law_33 rfl (lv_at hl 4 rfl) ?_
  refine lv_iload hx hb dL_law_34 (lv_at hl 0 rfl) ?_
  refine va_sld hx hb hX hbl hbA hS (sc_in0 hii ht hLn) dL_law_36 ?_
  refine lv_topi (fun z_4 ez_4 => ?_)
  refine lv_bipush (v := 31) hx hb dL_law_37 (by decide) ?_
  refine lv_iand hx hb dL_law_39 ?_
  refine lv_topi (fun z_5 ez_5 => ?_)
  have c_6 : z_5 = 13 := by rw [ez_5, ez_4, sc_0 (xs := xs) hii (by omega), hop]; decide
  refine lv_tableIn (tgt := 670) hx hb dL_law_40 (by rw [c_6]; decide) (by rw [c_6]; decide) (by rw [c_6]; rfl) (by decide) ?_
  exact hk
