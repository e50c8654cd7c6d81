theorem LI.mo {g : Nat → Nat} {h : HX} {B B2 : Int} {L : List Nat} {f : Nat → va_E} {i : Nat → Int32} {a : Nat → Nat → Int32} (hI : LI g h B L f i a) (hB : B ≤ B2) : LI g h B2 L f i a := ⟨hI.1, hI.2.1, hI.2.2.1.mo hB, hI.2.2.2⟩
theorem Eqx.ups {α : Type} {K : List Nat} {f g : Nat → α} {k : Nat} {v : α} (hv : v = g k) (h : Eqx K f g) : Eqx K (va_up f k v) g := fun j hj => by
  by_cases e : j = k
  · subst e; rw [hv]; exact va_up_self _ _ _
  · exact (va_up_ne _ _ e).trans (h j hj)
theorem wr_z {r : Option Value} {A : Int32 → Prop} {P : Prop} (h : (∃ v : Int32, r = some (.int 0) ∧ A v) ∨ (r = some (.int 1) ∧ P)) : ∃ z : Int32, r = some (.int z) := by
  rcases h with ⟨-, h, -⟩ | ⟨h, -⟩
  · exact ⟨_, h⟩
  · exact ⟨_, h⟩
theorem wr_z3 {r : Option Value} {A : Int32 → Prop} {P Q : Prop} (h : (∃ v : Int32, r = some (.int 0) ∧ A v) ∨ (r = some (.int 1) ∧ P) ∨ (r = some (.int 2) ∧ Q)) : ∃ z : Int32, r = some (.int z) := by
  rcases h with ⟨-, h, -⟩ | ⟨h, -⟩ | ⟨h, -⟩
  · exact ⟨_, h⟩
  · exact ⟨_, h⟩
  · exact ⟨_, h⟩
/-- a call of the class that leaves the state: plan, planned, fault -/
theorem st_fr {g : Nat → Nat} {L L2 : List Nat} {f f2 : Nat → va_E} {x0 wk vs cl ru : Nat} {va : Nat → Nat} {s : AS} {cs : List (Nat × Nat)} {r : Option Value} {A : Int32 → Prop} {P Q : Prop} (h0 : SR g L f (x0, wk, vs, cl, ru, va) s) (hE : Ext L f L2 f2) (hcs : ∀ c ∈ cs, okcl c ∧ c ≠ (200, 30)) (h : (∃ v : Int32, r = some (.int 0) ∧ ((∃ z : Int32, some (Value.int v) = some (.int z)) ∧ Fr cs L f f2 ∧ SR g L2 f2 (x0, wk, vs, cl, ru, va) s) ∧ A v) ∨ (r = some (.int 1) ∧ P ∧ Fr [] L f f2) ∨ (r = some (.int 2) ∧ Q ∧ Fr [] L f f2)) : SR g L2 f2 (x0, wk, vs, cl, ru, va) s ∧ ∃ cs : List (Nat × Nat), (∀ c ∈ cs, okcl c ∧ c ≠ (200, 30)) ∧ Fr cs L f f2 := by
  rcases h with ⟨v, -, ⟨-, h1, h2⟩, -⟩ | ⟨-, -, h1⟩ | ⟨-, -, h1⟩
  · exact ⟨h2, cs, hcs, h1⟩
  · exact ⟨h0.still hE h1 (by decide), [], by decide, h1⟩
  · exact ⟨h0.still hE h1 (by decide), [], by decide, h1⟩
theorem st_f0 {g : Nat → Nat} {L L2 : List Nat} {f f2 : Nat → va_E} {x0 wk vs cl ru : Nat} {va : Nat → Nat} {s : AS} {r : Option Value} {A B : Int32 → Prop} {P : Prop} (h0 : SR g L f (x0, wk, vs, cl, ru, va) s) (hE : Ext L f L2 f2) (h : (∃ v : Int32, r = some (.int 0) ∧ (B v ∧ Fr [] L f f2) ∧ A v) ∨ (r = some (.int 1) ∧ P ∧ Fr [] L f f2)) : SR g L2 f2 (x0, wk, vs, cl, ru, va) s ∧ Fr [] L f f2 := by
  rcases h with ⟨v, -, ⟨-, h1⟩, -⟩ | ⟨-, -, h1⟩
  · exact ⟨h0.still hE h1 (by decide), h1⟩
  · exact ⟨h0.still hE h1 (by decide), h1⟩
theorem st_f1 {g : Nat → Nat} {L L2 : List Nat} {f f2 : Nat → va_E} {x0 wk vs cl ru : Nat} {va : Nat → Nat} {s : AS} {r : Option Value} {A B D : Int32 → Prop} {P : Prop} (h0 : SR g L f (x0, wk, vs, cl, ru, va) s) (hE : Ext L f L2 f2) (h : (∃ v : Int32, r = some (.int 0) ∧ (B v ∧ Fr [] L f f2 ∧ D v) ∧ A v) ∨ (r = some (.int 1) ∧ P ∧ Fr [] L f f2)) : SR g L2 f2 (x0, wk, vs, cl, ru, va) s ∧ Fr [] L f f2 := by
  rcases h with ⟨v, -, ⟨-, h1, -⟩, -⟩ | ⟨-, -, h1⟩
  · exact ⟨h0.still hE h1 (by decide), h1⟩
  · exact ⟨h0.still hE h1 (by decide), h1⟩

set_option maxHeartbeats 4000000 in
set_option maxRecDepth 100000 in
theorem lo_charge {p : Program} {l : Launch} {e : Env} {s : State} {m : MethodId} {below : List Frame} {meth : Method} {c : Code} {b Ln : Nat} {xs : Nat → Int32} (hlt : l.stackTraces = false) (C0 : lw_At p s m meth c b Ln xs) (hLn : Ln ≤ 3072) {dC : Nat → ClassId} {dI : Nat → Nat → Nat} {sa : Nat → Nat} (hev : ev sa (fun q : Nat => s.heap.size ≤ q) s s.heap) {x0 rdr tok tp ka sta vaa wk vs cl ru pl tvr tc rc m0 ou : Nat} {va tv : Nat → Nat} {co : ClassId} {g gm bm : Nat → Nat} (hK : va_K (dC, dI) vwCl (tyG g ++ [(co, .long)] ++ tyM gm) s) {L : List Nat} {f : Nat → va_E} {fo : Nat → Int64} {i : Nat → Int32} {a : Nat → Nat → Int32} {H : Heap} {locs : List Loc} {ls : Array Slot} {cells slots t : Nat} {ii : Int32} (hI : LI g ((x0, rdr, tok, tp, ka, sta, vaa), (wk, vs, cl, ru, va), (pl, tvr, tc, tv), rc) ((10000 * t : Nat) : Int) L f i a) (hP : va_P (dC, dI) vwCl ((va_pl L f ++ [(ou, .inl (co, 1, .inr (.inl fo)))]) ++ mw gm m0 bm i a) H) (hD : va_D (fun q : Nat => s.heap.size ≤ q) ((va_pl L f ++ [(ou, .inl (co, 1, .inr (.inl fo)))]) ++ mw gm m0 bm i a)) (hS : va_S (fun q : Nat => s.heap.size ≤ q) s.heap H locs) (hl : lv_has ls 7 [(4, .int ii), (3, .ref ou), (2, .ref m0), (1, .ref x0), (0, .ref b)]) (hii : ii = nI (6 * t)) (ht : 6 * t + 6 ≤ Ln) (hc : cells + 303 ≤ 601024) (hs : slots + 2415 ≤ 7293034) (hk : ∀ (L2 : List Nat) (f2 : Nat → va_E) (fo2 : Nat → Int64) (i2 : Nat → Int32) (a2 : Nat → Nat → Int32) (H : Heap) (locs : List Loc) (ls : Array Slot), LI g ((x0, rdr, tok, tp, ka, sta, vaa), (wk, vs, cl, ru, va), (pl, tvr, tc, tv), rc) ((10000 * (t + 1) : Nat) : Int) L2 f2 i2 a2 → va_P (dC, dI) vwCl ((va_pl L2 f2 ++ [(ou, .inl (co, 1, .inr (.inl fo2)))]) ++ mw gm m0 bm i2 a2) H → va_D (fun q : Nat => s.heap.size ≤ q) ((va_pl L2 f2 ++ [(ou, .inl (co, 1, .inr (.inl fo2)))]) ++ mw gm m0 bm i2 a2) → va_S (fun q : Nat => s.heap.size ≤ q) s.heap H locs → lv_has ls 7 [(4, .int ii), (3, .ref ou), (2, .ref m0), (1, .ref x0), (0, .ref b)] → W p l e room_1 s m #[Value.ref b] below meth c H locs (cells + 303) (slots + 2415) (lw_Z below #[Value.ref b] s) (F0 m 938 ls [])) : W p l e room_1 s m #[Value.ref b] below meth c H locs cells slots (lw_Z below #[Value.ref b] s) (F0 m 132 ls []) := by
  obtain ⟨hx, hb, hr, hml, hown, hts, hX, hbl, hlocks, hgv⟩ := id C0
  have hown : s.vm.findClass RL = some m.cls := hown
  have hA : ∀ q : Nat, s.heap.size ≤ q → (fun q : Nat => s.heap.size ≤ q) q := fun _ h => h
  have hbA : ¬ (fun q : Nat => s.heap.size ≤ q) b := Nat.not_le.mpr hbl
  obtain ⟨hT0, ⟨⟨hRF, tt, hCN, hag⟩, ⟨hSR, h7, hPL⟩, hTE⟩, hGI, ht2, hBI, hkp⟩ := id hI
  have hB9 : ((10000 * t : Nat) : Int) ≤ 9000000 := by omega
  refine lv_aload_n hx hb dL_law_132 rfl (lv_at hl 3 rfl) ?_
  refine lv_aload_n hx hb dL_law_133 rfl (lv_at hl 4 rfl) ?_
  refine lv_iload hx hb dL_law_134 (lv_at hl 0 rfl) ?_
  refine lv_iconst (v := 1) hx hb dL_law_136 (by decide) ?_
  refine lv_iadd hx hb dL_law_137 ?_
  refine lv_topi (fun z_1 ez_1 => ?_)
  refine va_sld hx hb hX hbl hbA hS (sc_in ez_1 hii (by decide : (1 : Int32) = nI 1) (by decide) ht hLn) dL_law_138 ?_
  refine lv_topi (fun z_2 ez_2 => ?_)
  refine lv_aload_n hx hb dL_law_139 rfl (lv_at hl 4 rfl) ?_
  refine lv_iload hx hb dL_law_140 (lv_at hl 0 rfl) ?_
  refine lv_iconst (v := 2) hx hb dL_law_142 (by decide) ?_
  refine lv_iadd hx hb dL_law_143 ?_
  refine lv_topi (fun z_3 ez_3 => ?_)
  refine va_sld hx hb hX hbl hbA hS (sc_in ez_3 hii (by decide : (2 : Int32) = nI 2) (by decide) ht hLn) dL_law_144 ?_
  refine lv_topi (fun z_4 ez_4 => ?_)
  refine lv_aload_n hx hb dL_law_145 rfl (lv_at hl 1 rfl) ?_
  refine NW_S (hh := [(0, 10, 13, 13)]) ⟨hx, hb, hml, hown, hts⟩ (wS_charge l dC dI sa g _ _ x0 ou co _ z_2 z_4 _ (hT0.sub [0] rfl) (fun sz => (t_X9_chargeS l dC dI sa hlt g _ _ va (i, a) x0 z_2 z_4 wk vs cl ru sz (hT0.sub [0, 7, 8, 9, 10] rfl) hSR.1.2.1 hSR.1.2.2.2.2.1 hSR.1.2.2.1 hSR.1.2.2.2.1 hSR ⟨hGI.1.1, hGI.1.2.1, hGI.1.2.2.1, Int.le_trans hGI.1.2.2.2 hB9⟩)) (fun _ _ _ h9 => h9.1) (fun _ _ _ h9 => h9.1.1)) (vx_cwSW 4 hts gL_law_L_charge rfl rfl rfl (by decide +kernel) ⟨Nat.le_of_ble_eq_true rfl, Nat.le_of_ble_eq_true rfl⟩) hP hD (hK.sub [0, 1, 2, 3, 4, 5, 6, 7, 8, 9, 10, 11] rfl) hS hA hev rfl hl.1 rfl (Nat.le_of_ble_eq_true rfl) dL_law_146 ⟨by show _ + 1 ≤ 601024; omega, by show _ + 6 ≤ 7293034; omega⟩ (fun r u H locs hw hP hD hS => ?_)
  obtain ⟨⟨L2, f2⟩, fo2⟩ := u
  obtain ⟨hW2, hE2, hw⟩ := hw
  have hE2 : Ext L f L2 f2 := hE2
  have hco : CO g L f L2 f2 (x0, wk, vs, cl, ru, va) (chG z_2 z_4 (i, a)) r (fo2 0) := co1 hSR hE2 (by decide) hw
  obtain ⟨z_5, rfl⟩ : ∃ z : Int32, r = some (.int z) := ⟨_, hco.1⟩
  have hP : va_P (dC, dI) vwCl ((va_pl L2 f2 ++ [(ou, .inl (co, 1, .inr (.inl fo2)))]) ++ mw gm m0 bm i a) _ := hP
  have hD : va_D _ ((va_pl L2 f2 ++ [(ou, .inl (co, 1, .inr (.inl fo2)))]) ++ mw gm m0 bm i a) := hD
  refine W.eq (g2 := F0 m 149 ls [.int z_5]) rfl ?_
  refine lv_istore (lv' := [(5, .int z_5), (4, .int ii), (3, .ref ou), (2, .ref m0), (1, .ref x0), (0, .ref b)]) hx hb dL_law_149 hl (by decide) rfl (fun ls hl => ?_)
  refine lv_aload_n hx hb dL_law_151 rfl (lv_at hl 3 rfl) ?_
  refine lv_aload_n hx hb dL_law_152 rfl (lv_at hl 5 rfl) ?_
  refine lv_iload hx hb dL_law_153 (lv_at hl 1 rfl) ?_
  refine lv_iconst (v := 1) hx hb dL_law_155 (by decide) ?_
  refine lv_iadd hx hb dL_law_156 ?_
  refine lv_topi (fun z_6 ez_6 => ?_)
  refine va_sld hx hb hX hbl hbA hS (sc_in ez_6 hii (by decide : (1 : Int32) = nI 1) (by decide) ht hLn) dL_law_157 ?_
  refine lv_topi (fun z_7 ez_7 => ?_)
  refine lv_aload_n hx hb dL_law_158 rfl (lv_at hl 5 rfl) ?_
  refine lv_iload hx hb dL_law_159 (lv_at hl 1 rfl) ?_
  refine lv_iconst (v := 2) hx hb dL_law_161 (by decide) ?_
  refine lv_iadd hx hb dL_law_162 ?_
  refine lv_topi (fun z_8 ez_8 => ?_)
  refine va_sld hx hb hX hbl hbA hS (sc_in ez_8 hii (by decide : (2 : Int32) = nI 2) (by decide) ht hLn) dL_law_163 ?_
  refine lv_topi (fun z_9 ez_9 => ?_)
  refine NV_V ⟨hx, hb, hml, hown, hts⟩ (m_X10_chargeE l dC dI sa gm m0 bm i a z_7 z_9 _ ) (cwV 2 hts gL_law_X10_charge rfl rfl rfl (by decide +kernel) ⟨Nat.le_of_ble_eq_true rfl, Nat.le_of_ble_eq_true rfl⟩) hP hD (hK.sub [12, 13, 14, 15, 16, 17, 18, 19, 20, 21, 22, 23, 24, 25, 26, 27, 28, 29, 30, 31, 32, 33, 34, 35, 36, 37, 38, 39, 40] rfl) hS hA hev rfl rfl rfl rfl hl.1 rfl (Nat.le_of_ble_eq_true rfl) dL_law_164 ⟨by show _ + 0 ≤ 601024; omega, by show _ + 0 ≤ 7293034; omega⟩ (fun r u H locs hw hP hD hS => ?_)
  obtain ⟨x0_10, x3_11, y4_12⟩ := u
  have hw : (∃ z : Int32, r = some (.int z)) ∧ (x0_10 = (chG z_7 z_9 (i, a)).1 ∧ ((chG z_7 z_9 (i, a)).1 = 0 → r = some (.int (chG z_7 z_9 (i, a)).2.1)) ∧ x3_11 = (chG z_7 z_9 (i, a)).2.2.1 3 ∧ y4_12 = (chG z_7 z_9 (i, a)).2.2.2 4) := hw
  obtain ⟨⟨z_13, rfl⟩, hwP⟩ := hw
  have hab0 : z_7 = z_2 := by rw [ez_7, ez_6, ez_2, ez_1]
  have hab1 : z_9 = z_4 := by rw [ez_9, ez_8, ez_4, ez_3]
  rw [hab0, hab1] at hwP
  obtain ⟨hm0, hm1, hn3, hn4⟩ := hwP
  obtain ⟨hth, hout, hI2⟩ := both_op (K := [3]) (KA_ := [4]) (i2 := (va_up (va_up i 0 x0_10) 3 x3_11)) (a2 := (va_up a 4 y4_12)) hI hW2 hE2 hco hGI.ch fx_ch hm0 hm1 (Eqx.up (by decide) (Eqx.up (by decide) Eqx.rf)) (Eqx.up (by decide) Eqx.rf) (by intro k hk; simp only [List.mem_cons, List.not_mem_nil, or_false] at hk; rcases hk with rfl <;> assumption) (by intro k hk; simp only [List.mem_cons, List.not_mem_nil, or_false] at hk; rcases hk with rfl <;> assumption) (by decide) (by decide)
  have hP : va_P (dC, dI) vwCl ((va_pl L2 f2 ++ [(ou, .inl (co, 1, .inr (.inl fo2)))]) ++ mw gm m0 bm (va_up (va_up i 0 x0_10) 3 x3_11) (va_up a 4 y4_12)) _ := hP
  have hD : va_D _ ((va_pl L2 f2 ++ [(ou, .inl (co, 1, .inr (.inl fo2)))]) ++ mw gm m0 bm (va_up (va_up i 0 x0_10) 3 x3_11) (va_up a 4 y4_12)) := hD
  refine W.eq (g2 := F0 m 167 ls [.int z_13]) rfl ?_
  refine lv_istore (lv' := [(6, .int z_13), (5, .int z_5), (4, .int ii), (3, .ref ou), (2, .ref m0), (1, .ref x0), (0, .ref b)]) hx hb dL_law_167 hl (by decide) rfl (fun ls hl => ?_)
  refine lv_goto (tgt := 938) hx hb dL_law_169 (by decide) ?_
  exact W.widen (by omega) (by omega) (hk L2 f2 fo2 (va_up (va_up i 0 x0_10) 3 x3_11) (va_up a 4 y4_12) _ _ _ (hI2.mo (by omega)) hP hD hS (lv_sub hl [2, 3, 4, 5, 6] rfl))

set_option maxHeartbeats 4000000 in
set_option maxRecDepth 100000 in
theorem lo_feed {p : Program} {l : Launch} {e : Env} {s : State} {m : MethodId} {below : List Frame} {meth : Method} {c : Code} {b Ln : Nat} {xs : Nat → Int32} (hlt : l.stackTraces = false) (C0 : lw_At p s m meth c b Ln xs) (hLn : Ln ≤ 3072) {dC : Nat → ClassId} {dI : Nat → Nat → Nat} {sa : Nat → Nat} (hev : ev sa (fun q : Nat => s.heap.size ≤ q) s s.heap) {x0 rdr tok tp ka sta vaa wk vs cl ru pl tvr tc rc m0 ou : Nat} {va tv : Nat → Nat} {co : ClassId} {g gm bm : Nat → Nat} (hK : va_K (dC, dI) vwCl (tyG g ++ [(co, .long)] ++ tyM gm) s) {L : List Nat} {f : Nat → va_E} {fo : Nat → Int64} {i : Nat → Int32} {a : Nat → Nat → Int32} {H : Heap} {locs : List Loc} {ls : Array Slot} {cells slots t : Nat} {ii : Int32} (hI : LI g ((x0, rdr, tok, tp, ka, sta, vaa), (wk, vs, cl, ru, va), (pl, tvr, tc, tv), rc) ((10000 * t : Nat) : Int) L f i a) (hP : va_P (dC, dI) vwCl ((va_pl L f ++ [(ou, .inl (co, 1, .inr (.inl fo)))]) ++ mw gm m0 bm i a) H) (hD : va_D (fun q : Nat => s.heap.size ≤ q) ((va_pl L f ++ [(ou, .inl (co, 1, .inr (.inl fo)))]) ++ mw gm m0 bm i a)) (hS : va_S (fun q : Nat => s.heap.size ≤ q) s.heap H locs) (hl : lv_has ls 7 [(4, .int ii), (3, .ref ou), (2, .ref m0), (1, .ref x0), (0, .ref b)]) (hii : ii = nI (6 * t)) (ht : 6 * t + 6 ≤ Ln) (hc : cells + 303 ≤ 601024) (hs : slots + 2415 ≤ 7293034) (hk : ∀ (L2 : List Nat) (f2 : Nat → va_E) (fo2 : Nat → Int64) (i2 : Nat → Int32) (a2 : Nat → Nat → Int32) (H : Heap) (locs : List Loc) (ls : Array Slot), LI g ((x0, rdr, tok, tp, ka, sta, vaa), (wk, vs, cl, ru, va), (pl, tvr, tc, tv), rc) ((10000 * (t + 1) : Nat) : Int) L2 f2 i2 a2 → va_P (dC, dI) vwCl ((va_pl L2 f2 ++ [(ou, .inl (co, 1, .inr (.inl fo2)))]) ++ mw gm m0 bm i2 a2) H → va_D (fun q : Nat => s.heap.size ≤ q) ((va_pl L2 f2 ++ [(ou, .inl (co, 1, .inr (.inl fo2)))]) ++ mw gm m0 bm i2 a2) → va_S (fun q : Nat => s.heap.size ≤ q) s.heap H locs → lv_has ls 7 [(4, .int ii), (3, .ref ou), (2, .ref m0), (1, .ref x0), (0, .ref b)] → W p l e room_1 s m #[Value.ref b] below meth c H locs (cells + 303) (slots + 2415) (lw_Z below #[Value.ref b] s) (F0 m 938 ls [])) : W p l e room_1 s m #[Value.ref b] below meth c H locs cells slots (lw_Z below #[Value.ref b] s) (F0 m 172 ls []) := by
  obtain ⟨hx, hb, hr, hml, hown, hts, hX, hbl, hlocks, hgv⟩ := id C0
  have hown : s.vm.findClass RL = some m.cls := hown
  have hA : ∀ q : Nat, s.heap.size ≤ q → (fun q : Nat => s.heap.size ≤ q) q := fun _ h => h
  have hbA : ¬ (fun q : Nat => s.heap.size ≤ q) b := Nat.not_le.mpr hbl
  obtain ⟨hT0, ⟨⟨hRF, tt, hCN, hag⟩, ⟨hSR, h7, hPL⟩, hTE⟩, hGI, ht2, hBI, hkp⟩ := id hI
  have hB9 : ((10000 * t : Nat) : Int) ≤ 9000000 := by omega
  refine lv_aload_n hx hb dL_law_172 rfl (lv_at hl 3 rfl) ?_
  refine lv_aload_n hx hb dL_law_173 rfl (lv_at hl 4 rfl) ?_
  refine lv_iload hx hb dL_law_174 (lv_at hl 0 rfl) ?_
  refine lv_iconst (v := 1) hx hb dL_law_176 (by decide) ?_
  refine lv_iadd hx hb dL_law_177 ?_
  refine lv_topi (fun z_1 ez_1 => ?_)
  refine va_sld hx hb hX hbl hbA hS (sc_in ez_1 hii (by decide : (1 : Int32) = nI 1) (by decide) ht hLn) dL_law_178 ?_
  refine lv_topi (fun z_2 ez_2 => ?_)
  refine lv_aload_n hx hb dL_law_179 rfl (lv_at hl 4 rfl) ?_
  refine lv_iload hx hb dL_law_180 (lv_at hl 0 rfl) ?_
  refine lv_iconst (v := 2) hx hb dL_law_182 (by decide) ?_
  refine lv_iadd hx hb dL_law_183 ?_
  refine lv_topi (fun z_3 ez_3 => ?_)
  refine va_sld hx hb hX hbl hbA hS (sc_in ez_3 hii (by decide : (2 : Int32) = nI 2) (by decide) ht hLn) dL_law_184 ?_
  refine lv_topi (fun z_4 ez_4 => ?_)
  refine lv_aload_n hx hb dL_law_185 rfl (lv_at hl 1 rfl) ?_
  refine NW_S (hh := [(0, 10, 13, 13), (0, 10, 17, 18)]) ⟨hx, hb, hml, hown, hts⟩ (wS_feed l dC dI sa g _ _ x0 ou co _ z_2 z_4 _ (hT0.sub [0] rfl) (fun sz => (t_X9_feedS l dC dI sa hlt g _ _ va (i, a) x0 z_2 z_4 wk vs cl ru sz (hT0.sub [0, 7, 8, 9, 10] rfl) hSR.1.2.1 hSR.1.2.2.2.2.1 hSR.1.2.2.1 hSR.1.2.2.2.1 hSR ⟨hGI.1.1, hGI.1.2.1, hGI.1.2.2.1, Int.le_trans hGI.1.2.2.2 hB9⟩)) (fun _ _ _ h9 => h9.1) (fun _ _ _ h9 => h9.1.imp (fun q9 => q9.1) (fun q9 => q9.1))) (vx_cwSW 4 hts gL_law_L_feed rfl rfl rfl (by decide +kernel) ⟨Nat.le_of_ble_eq_true rfl, Nat.le_of_ble_eq_true rfl⟩) hP hD (hK.sub [0, 1, 2, 3, 4, 5, 6, 7, 8, 9, 10, 11] rfl) hS hA hev rfl hl.1 rfl (Nat.le_of_ble_eq_true rfl) dL_law_186 ⟨by show _ + 2 ≤ 601024; omega, by show _ + 12 ≤ 7293034; omega⟩ (fun r u H locs hw hP hD hS => ?_)
  obtain ⟨⟨L2, f2⟩, fo2⟩ := u
  obtain ⟨hW2, hE2, hw⟩ := hw
  have hE2 : Ext L f L2 f2 := hE2
  have hco : CO g L f L2 f2 (x0, wk, vs, cl, ru, va) (fdS z_2 z_4 (i, a)) r (fo2 0) := co2 hSR hE2 (by decide) (by decide) (by decide) hw
  obtain ⟨z_5, rfl⟩ : ∃ z : Int32, r = some (.int z) := ⟨_, hco.1⟩
  have hP : va_P (dC, dI) vwCl ((va_pl L2 f2 ++ [(ou, .inl (co, 1, .inr (.inl fo2)))]) ++ mw gm m0 bm i a) _ := hP
  have hD : va_D _ ((va_pl L2 f2 ++ [(ou, .inl (co, 1, .inr (.inl fo2)))]) ++ mw gm m0 bm i a) := hD
  refine W.eq (g2 := F0 m 189 ls [.int z_5]) rfl ?_
  refine lv_istore (lv' := [(5, .int z_5), (4, .int ii), (3, .ref ou), (2, .ref m0), (1, .ref x0), (0, .ref b)]) hx hb dL_law_189 hl (by decide) rfl (fun ls hl => ?_)
  refine lv_aload_n hx hb dL_law_191 rfl (lv_at hl 3 rfl) ?_
  refine lv_aload_n hx hb dL_law_192 rfl (lv_at hl 5 rfl) ?_
  refine lv_iload hx hb dL_law_193 (lv_at hl 1 rfl) ?_
  refine lv_iconst (v := 1) hx hb dL_law_195 (by decide) ?_
  refine lv_iadd hx hb dL_law_196 ?_
  refine lv_topi (fun z_6 ez_6 => ?_)
  refine va_sld hx hb hX hbl hbA hS (sc_in ez_6 hii (by decide : (1 : Int32) = nI 1) (by decide) ht hLn) dL_law_197 ?_
  refine lv_topi (fun z_7 ez_7 => ?_)
  refine lv_aload_n hx hb dL_law_198 rfl (lv_at hl 5 rfl) ?_
  refine lv_iload hx hb dL_law_199 (lv_at hl 1 rfl) ?_
  refine lv_iconst (v := 2) hx hb dL_law_201 (by decide) ?_
  refine lv_iadd hx hb dL_law_202 ?_
  refine lv_topi (fun z_8 ez_8 => ?_)
  refine va_sld hx hb hX hbl hbA hS (sc_in ez_8 hii (by decide : (2 : Int32) = nI 2) (by decide) ht hLn) dL_law_203 ?_
  refine lv_topi (fun z_9 ez_9 => ?_)
  refine NV_V ⟨hx, hb, hml, hown, hts⟩ (m_X10_feedE l dC dI sa gm m0 bm i a z_7 z_9 _ ) (cwV 2 hts gL_law_X10_feed rfl rfl rfl (by decide +kernel) ⟨Nat.le_of_ble_eq_true rfl, Nat.le_of_ble_eq_true rfl⟩) hP hD (hK.sub [12, 13, 14, 15, 16, 17, 18, 19, 20, 21, 22, 23, 24, 25, 26, 27, 28, 29, 30, 31, 32, 33, 34, 35, 36, 37, 38, 39, 40] rfl) hS hA hev rfl rfl rfl rfl hl.1 rfl (Nat.le_of_ble_eq_true rfl) dL_law_204 ⟨by show _ + 0 ≤ 601024; omega, by show _ + 0 ≤ 7293034; omega⟩ (fun r u H locs hw hP hD hS => ?_)
  obtain ⟨x0_10, y5_11, y7_12⟩ := u
  have hw : (∃ z : Int32, r = some (.int z)) ∧ (x0_10 = (fdS z_7 z_9 (i, a)).1 ∧ ((fdS z_7 z_9 (i, a)).1 = 0 → r = some (.int (fdS z_7 z_9 (i, a)).2.1)) ∧ y5_11 = (fdS z_7 z_9 (i, a)).2.2.2 5 ∧ y7_12 = (fdS z_7 z_9 (i, a)).2.2.2 7) := hw
  obtain ⟨⟨z_13, rfl⟩, hwP⟩ := hw
  have hab0 : z_7 = z_2 := by rw [ez_7, ez_6, ez_2, ez_1]
  have hab1 : z_9 = z_4 := by rw [ez_9, ez_8, ez_4, ez_3]
  rw [hab0, hab1] at hwP
  obtain ⟨hm0, hm1, hn5, hn7⟩ := hwP
  obtain ⟨hth, hout, hI2⟩ := both_op (K := []) (KA_ := [5, 7]) (i2 := (va_up i 0 x0_10)) (a2 := (va_up (va_up a 5 y5_11) 7 y7_12)) hI hW2 hE2 hco hGI.fd fx_fd hm0 hm1 (Eqx.up (by decide) Eqx.rf) (Eqx.up (by decide) (Eqx.up (by decide) Eqx.rf)) (fun k hk => absurd hk (by simp)) (by intro k hk; simp only [List.mem_cons, List.not_mem_nil, or_false] at hk; rcases hk with rfl | rfl <;> assumption) (by decide) (by decide)
  have hP : va_P (dC, dI) vwCl ((va_pl L2 f2 ++ [(ou, .inl (co, 1, .inr (.inl fo2)))]) ++ mw gm m0 bm (va_up i 0 x0_10) (va_up (va_up a 5 y5_11) 7 y7_12)) _ := hP
  have hD : va_D _ ((va_pl L2 f2 ++ [(ou, .inl (co, 1, .inr (.inl fo2)))]) ++ mw gm m0 bm (va_up i 0 x0_10) (va_up (va_up a 5 y5_11) 7 y7_12)) := hD
  refine W.eq (g2 := F0 m 207 ls [.int z_13]) rfl ?_
  refine lv_istore (lv' := [(6, .int z_13), (5, .int z_5), (4, .int ii), (3, .ref ou), (2, .ref m0), (1, .ref x0), (0, .ref b)]) hx hb dL_law_207 hl (by decide) rfl (fun ls hl => ?_)
  refine lv_goto (tgt := 938) hx hb dL_law_209 (by decide) ?_
  exact W.widen (by omega) (by omega) (hk L2 f2 fo2 (va_up i 0 x0_10) (va_up (va_up a 5 y5_11) 7 y7_12) _ _ _ (hI2.mo (by omega)) hP hD hS (lv_sub hl [2, 3, 4, 5, 6] rfl))

set_option maxHeartbeats 4000000 in
set_option maxRecDepth 100000 in
theorem lo_lime {p : Program} {l : Launch} {e : Env} {s : State} {m : MethodId} {below : List Frame} {meth : Method} {c : Code} {b Ln : Nat} {xs : Nat → Int32} (hlt : l.stackTraces = false) (C0 : lw_At p s m meth c b Ln xs) (hLn : Ln ≤ 3072) {dC : Nat → ClassId} {dI : Nat → Nat → Nat} {sa : Nat → Nat} (hev : ev sa (fun q : Nat => s.heap.size ≤ q) s s.heap) {x0 rdr tok tp ka sta vaa wk vs cl ru pl tvr tc rc m0 ou : Nat} {va tv : Nat → Nat} {co : ClassId} {g gm bm : Nat → Nat} (hK : va_K (dC, dI) vwCl (tyG g ++ [(co, .long)] ++ tyM gm) s) {L : List Nat} {f : Nat → va_E} {fo : Nat → Int64} {i : Nat → Int32} {a : Nat → Nat → Int32} {H : Heap} {locs : List Loc} {ls : Array Slot} {cells slots t : Nat} {ii : Int32} (hI : LI g ((x0, rdr, tok, tp, ka, sta, vaa), (wk, vs, cl, ru, va), (pl, tvr, tc, tv), rc) ((10000 * t : Nat) : Int) L f i a) (hP : va_P (dC, dI) vwCl ((va_pl L f ++ [(ou, .inl (co, 1, .inr (.inl fo)))]) ++ mw gm m0 bm i a) H) (hD : va_D (fun q : Nat => s.heap.size ≤ q) ((va_pl L f ++ [(ou, .inl (co, 1, .inr (.inl fo)))]) ++ mw gm m0 bm i a)) (hS : va_S (fun q : Nat => s.heap.size ≤ q) s.heap H locs) (hl : lv_has ls 7 [(4, .int ii), (3, .ref ou), (2, .ref m0), (1, .ref x0), (0, .ref b)]) (hii : ii = nI (6 * t)) (ht : 6 * t + 6 ≤ Ln) (hc : cells + 303 ≤ 601024) (hs : slots + 2415 ≤ 7293034) (hk : ∀ (L2 : List Nat) (f2 : Nat → va_E) (fo2 : Nat → Int64) (i2 : Nat → Int32) (a2 : Nat → Nat → Int32) (H : Heap) (locs : List Loc) (ls : Array Slot), LI g ((x0, rdr, tok, tp, ka, sta, vaa), (wk, vs, cl, ru, va), (pl, tvr, tc, tv), rc) ((10000 * (t + 1) : Nat) : Int) L2 f2 i2 a2 → va_P (dC, dI) vwCl ((va_pl L2 f2 ++ [(ou, .inl (co, 1, .inr (.inl fo2)))]) ++ mw gm m0 bm i2 a2) H → va_D (fun q : Nat => s.heap.size ≤ q) ((va_pl L2 f2 ++ [(ou, .inl (co, 1, .inr (.inl fo2)))]) ++ mw gm m0 bm i2 a2) → va_S (fun q : Nat => s.heap.size ≤ q) s.heap H locs → lv_has ls 7 [(4, .int ii), (3, .ref ou), (2, .ref m0), (1, .ref x0), (0, .ref b)] → W p l e room_1 s m #[Value.ref b] below meth c H locs (cells + 303) (slots + 2415) (lw_Z below #[Value.ref b] s) (F0 m 938 ls [])) : W p l e room_1 s m #[Value.ref b] below meth c H locs cells slots (lw_Z below #[Value.ref b] s) (F0 m 212 ls []) := by
  obtain ⟨hx, hb, hr, hml, hown, hts, hX, hbl, hlocks, hgv⟩ := id C0
  have hown : s.vm.findClass RL = some m.cls := hown
  have hA : ∀ q : Nat, s.heap.size ≤ q → (fun q : Nat => s.heap.size ≤ q) q := fun _ h => h
  have hbA : ¬ (fun q : Nat => s.heap.size ≤ q) b := Nat.not_le.mpr hbl
  obtain ⟨hT0, ⟨⟨hRF, tt, hCN, hag⟩, ⟨hSR, h7, hPL⟩, hTE⟩, hGI, ht2, hBI, hkp⟩ := id hI
  have hB9 : ((10000 * t : Nat) : Int) ≤ 9000000 := by omega
  refine lv_aload_n hx hb dL_law_212 rfl (lv_at hl 3 rfl) ?_
  refine lv_aload_n hx hb dL_law_213 rfl (lv_at hl 4 rfl) ?_
  refine lv_iload hx hb dL_law_214 (lv_at hl 0 rfl) ?_
  refine lv_iconst (v := 1) hx hb dL_law_216 (by decide) ?_
  refine lv_iadd hx hb dL_law_217 ?_
  refine lv_topi (fun z_1 ez_1 => ?_)
  refine va_sld hx hb hX hbl hbA hS (sc_in ez_1 hii (by decide : (1 : Int32) = nI 1) (by decide) ht hLn) dL_law_218 ?_
  refine lv_topi (fun z_2 ez_2 => ?_)
  refine lv_aload_n hx hb dL_law_219 rfl (lv_at hl 1 rfl) ?_
  refine NW_S (hh := [(0, 9, 12, 13)]) ⟨hx, hb, hml, hown, hts⟩ (wS_lime l dC dI sa g _ _ x0 ou co _ z_2 _ (hT0.sub [0] rfl) (fun sz => (t_X9_limeS l dC dI sa hlt g _ _ va (i, a) x0 z_2 wk vs cl ru sz (hT0.sub [0, 7, 8, 9, 10] rfl) hSR.1.2.1 hSR.1.2.2.2.2.1 hSR.1.2.2.1 hSR.1.2.2.2.1 hSR ⟨hGI.1.1, hGI.1.2.1, hGI.1.2.2.1, Int.le_trans hGI.1.2.2.2 hB9⟩)) (fun _ _ _ h9 => h9.1) (fun _ _ _ h9 => h9.1.1)) (vx_cwSW 3 hts gL_law_L_lime rfl rfl rfl (by decide +kernel) ⟨Nat.le_of_ble_eq_true rfl, Nat.le_of_ble_eq_true rfl⟩) hP hD (hK.sub [0, 1, 2, 3, 4, 5, 6, 7, 8, 9, 10, 11] rfl) hS hA hev rfl hl.1 rfl (Nat.le_of_ble_eq_true rfl) dL_law_220 ⟨by show _ + 1 ≤ 601024; omega, by show _ + 6 ≤ 7293034; omega⟩ (fun r u H locs hw hP hD hS => ?_)
  obtain ⟨⟨L2, f2⟩, fo2⟩ := u
  obtain ⟨hW2, hE2, hw⟩ := hw
  have hE2 : Ext L f L2 f2 := hE2
  have hco : CO g L f L2 f2 (x0, wk, vs, cl, ru, va) (lmS z_2 (i, a)) r (fo2 0) := co1 hSR hE2 (by decide) hw
  obtain ⟨z_3, rfl⟩ : ∃ z : Int32, r = some (.int z) := ⟨_, hco.1⟩
  have hP : va_P (dC, dI) vwCl ((va_pl L2 f2 ++ [(ou, .inl (co, 1, .inr (.inl fo2)))]) ++ mw gm m0 bm i a) _ := hP
  have hD : va_D _ ((va_pl L2 f2 ++ [(ou, .inl (co, 1, .inr (.inl fo2)))]) ++ mw gm m0 bm i a) := hD
  refine W.eq (g2 := F0 m 223 ls [.int z_3]) rfl ?_
  refine lv_istore (lv' := [(5, .int z_3), (4, .int ii), (3, .ref ou), (2, .ref m0), (1, .ref x0), (0, .ref b)]) hx hb dL_law_223 hl (by decide) rfl (fun ls hl => ?_)
  refine lv_aload_n hx hb dL_law_225 rfl (lv_at hl 3 rfl) ?_
  refine lv_aload_n hx hb dL_law_226 rfl (lv_at hl 5 rfl) ?_
  refine lv_iload hx hb dL_law_227 (lv_at hl 1 rfl) ?_
  refine lv_iconst (v := 1) hx hb dL_law_229 (by decide) ?_
  refine lv_iadd hx hb dL_law_230 ?_
  refine lv_topi (fun z_4 ez_4 => ?_)
  refine va_sld hx hb hX hbl hbA hS (sc_in ez_4 hii (by decide : (1 : Int32) = nI 1) (by decide) ht hLn) dL_law_231 ?_
  refine lv_topi (fun z_5 ez_5 => ?_)
  refine NV_V ⟨hx, hb, hml, hown, hts⟩ (m_X10_limeE l dC dI sa gm m0 bm i a z_5 _ ) (cwV 1 hts gL_law_X10_lime rfl rfl rfl (by decide +kernel) ⟨Nat.le_of_ble_eq_true rfl, Nat.le_of_ble_eq_true rfl⟩) hP hD (hK.sub [12, 13, 14, 15, 16, 17, 18, 19, 20, 21, 22, 23, 24, 25, 26, 27, 28, 29, 30, 31, 32, 33, 34, 35, 36, 37, 38, 39, 40] rfl) hS hA hev rfl rfl rfl rfl hl.1 rfl (Nat.le_of_ble_eq_true rfl) dL_law_232 ⟨by show _ + 0 ≤ 601024; omega, by show _ + 0 ≤ 7293034; omega⟩ (fun r u H locs hw hP hD hS => ?_)
  obtain ⟨x0_6, y5_7, y6_8, y7_9⟩ := u
  have hw : (∃ z : Int32, r = some (.int z)) ∧ (x0_6 = (lmS z_5 (i, a)).1 ∧ ((lmS z_5 (i, a)).1 = 0 → r = some (.int (lmS z_5 (i, a)).2.1)) ∧ y5_7 = (lmS z_5 (i, a)).2.2.2 5 ∧ y6_8 = (lmS z_5 (i, a)).2.2.2 6 ∧ y7_9 = (lmS z_5 (i, a)).2.2.2 7) := hw
  obtain ⟨⟨z_10, rfl⟩, hwP⟩ := hw
  have hab0 : z_5 = z_2 := by rw [ez_5, ez_4, ez_2, ez_1]
  rw [hab0] at hwP
  obtain ⟨hm0, hm1, hn5, hn6, hn7⟩ := hwP
  obtain ⟨hth, hout, hI2⟩ := both_op (K := []) (KA_ := [5, 6, 7]) (i2 := (va_up i 0 x0_6)) (a2 := (va_up (va_up (va_up a 5 y5_7) 6 y6_8) 7 y7_9)) hI hW2 hE2 hco hGI.lm fx_lm hm0 hm1 (Eqx.up (by decide) Eqx.rf) (Eqx.up (by decide) (Eqx.up (by decide) (Eqx.up (by decide) Eqx.rf))) (fun k hk => absurd hk (by simp)) (by intro k hk; simp only [List.mem_cons, List.not_mem_nil, or_false] at hk; rcases hk with rfl | rfl | rfl <;> assumption) (by decide) (by decide)
  have hP : va_P (dC, dI) vwCl ((va_pl L2 f2 ++ [(ou, .inl (co, 1, .inr (.inl fo2)))]) ++ mw gm m0 bm (va_up i 0 x0_6) (va_up (va_up (va_up a 5 y5_7) 6 y6_8) 7 y7_9)) _ := hP
  have hD : va_D _ ((va_pl L2 f2 ++ [(ou, .inl (co, 1, .inr (.inl fo2)))]) ++ mw gm m0 bm (va_up i 0 x0_6) (va_up (va_up (va_up a 5 y5_7) 6 y6_8) 7 y7_9)) := hD
  refine W.eq (g2 := F0 m 235 ls [.int z_10]) rfl ?_
  refine lv_istore (lv' := [(6, .int z_10), (5, .int z_3), (4, .int ii), (3, .ref ou), (2, .ref m0), (1, .ref x0), (0, .ref b)]) hx hb dL_law_235 hl (by decide) rfl (fun ls hl => ?_)
  refine lv_goto (tgt := 938) hx hb dL_law_237 (by decide) ?_
  exact W.widen (by omega) (by omega) (hk L2 f2 fo2 (va_up i 0 x0_6) (va_up (va_up (va_up a 5 y5_7) 6 y6_8) 7 y7_9) _ _ _ (hI2.mo (by omega)) hP hD hS (lv_sub hl [2, 3, 4, 5, 6] rfl))

set_option maxHeartbeats 4000000 in
set_option maxRecDepth 100000 in
theorem lo_hours {p : Program} {l : Launch} {e : Env} {s : State} {m : MethodId} {below : List Frame} {meth : Method} {c : Code} {b Ln : Nat} {xs : Nat → Int32} (hlt : l.stackTraces = false) (C0 : lw_At p s m meth c b Ln xs) (hLn : Ln ≤ 3072) {dC : Nat → ClassId} {dI : Nat → Nat → Nat} {sa : Nat → Nat} (hev : ev sa (fun q : Nat => s.heap.size ≤ q) s s.heap) {x0 rdr tok tp ka sta vaa wk vs cl ru pl tvr tc rc m0 ou : Nat} {va tv : Nat → Nat} {co : ClassId} {g gm bm : Nat → Nat} (hK : va_K (dC, dI) vwCl (tyG g ++ [(co, .long)] ++ tyM gm) s) {L : List Nat} {f : Nat → va_E} {fo : Nat → Int64} {i : Nat → Int32} {a : Nat → Nat → Int32} {H : Heap} {locs : List Loc} {ls : Array Slot} {cells slots t : Nat} {ii : Int32} (hI : LI g ((x0, rdr, tok, tp, ka, sta, vaa), (wk, vs, cl, ru, va), (pl, tvr, tc, tv), rc) ((10000 * t : Nat) : Int) L f i a) (hP : va_P (dC, dI) vwCl ((va_pl L f ++ [(ou, .inl (co, 1, .inr (.inl fo)))]) ++ mw gm m0 bm i a) H) (hD : va_D (fun q : Nat => s.heap.size ≤ q) ((va_pl L f ++ [(ou, .inl (co, 1, .inr (.inl fo)))]) ++ mw gm m0 bm i a)) (hS : va_S (fun q : Nat => s.heap.size ≤ q) s.heap H locs) (hl : lv_has ls 7 [(4, .int ii), (3, .ref ou), (2, .ref m0), (1, .ref x0), (0, .ref b)]) (hii : ii = nI (6 * t)) (ht : 6 * t + 6 ≤ Ln) (hc : cells + 303 ≤ 601024) (hs : slots + 2415 ≤ 7293034) (hk : ∀ (L2 : List Nat) (f2 : Nat → va_E) (fo2 : Nat → Int64) (i2 : Nat → Int32) (a2 : Nat → Nat → Int32) (H : Heap) (locs : List Loc) (ls : Array Slot), LI g ((x0, rdr, tok, tp, ka, sta, vaa), (wk, vs, cl, ru, va), (pl, tvr, tc, tv), rc) ((10000 * (t + 1) : Nat) : Int) L2 f2 i2 a2 → va_P (dC, dI) vwCl ((va_pl L2 f2 ++ [(ou, .inl (co, 1, .inr (.inl fo2)))]) ++ mw gm m0 bm i2 a2) H → va_D (fun q : Nat => s.heap.size ≤ q) ((va_pl L2 f2 ++ [(ou, .inl (co, 1, .inr (.inl fo2)))]) ++ mw gm m0 bm i2 a2) → va_S (fun q : Nat => s.heap.size ≤ q) s.heap H locs → lv_has ls 7 [(4, .int ii), (3, .ref ou), (2, .ref m0), (1, .ref x0), (0, .ref b)] → W p l e room_1 s m #[Value.ref b] below meth c H locs (cells + 303) (slots + 2415) (lw_Z below #[Value.ref b] s) (F0 m 938 ls [])) : W p l e room_1 s m #[Value.ref b] below meth c H locs cells slots (lw_Z below #[Value.ref b] s) (F0 m 240 ls []) := by
  obtain ⟨hx, hb, hr, hml, hown, hts, hX, hbl, hlocks, hgv⟩ := id C0
  have hown : s.vm.findClass RL = some m.cls := hown
  have hA : ∀ q : Nat, s.heap.size ≤ q → (fun q : Nat => s.heap.size ≤ q) q := fun _ h => h
  have hbA : ¬ (fun q : Nat => s.heap.size ≤ q) b := Nat.not_le.mpr hbl
  obtain ⟨hT0, ⟨⟨hRF, tt, hCN, hag⟩, ⟨hSR, h7, hPL⟩, hTE⟩, hGI, ht2, hBI, hkp⟩ := id hI
  have hB9 : ((10000 * t : Nat) : Int) ≤ 9000000 := by omega
  refine lv_aload_n hx hb dL_law_240 rfl (lv_at hl 3 rfl) ?_
  refine lv_aload_n hx hb dL_law_241 rfl (lv_at hl 4 rfl) ?_
  refine lv_iload hx hb dL_law_242 (lv_at hl 0 rfl) ?_
  refine lv_iconst (v := 1) hx hb dL_law_244 (by decide) ?_
  refine lv_iadd hx hb dL_law_245 ?_
  refine lv_topi (fun z_1 ez_1 => ?_)
  refine va_sld hx hb hX hbl hbA hS (sc_in ez_1 hii (by decide : (1 : Int32) = nI 1) (by decide) ht hLn) dL_law_246 ?_
  refine lv_topi (fun z_2 ez_2 => ?_)
  refine lv_aload_n hx hb dL_law_247 rfl (lv_at hl 1 rfl) ?_
  refine NW_S (hh := [(0, 9, 12, 18)]) ⟨hx, hb, hml, hown, hts⟩ (wS_hours l dC dI sa g _ _ x0 ou co _ z_2 _ (hT0.sub [0] rfl) (fun sz => (t_X9_hoursS l dC dI sa hlt g _ _ va (i, a) x0 z_2 wk vs cl ru sz (hT0.sub [0, 7, 8, 9, 10] rfl) hSR.1.2.1 hSR.1.2.2.2.2.1 hSR.1.2.2.1 hSR.1.2.2.2.1 hSR ⟨hGI.1.1, hGI.1.2.1, hGI.1.2.2.1, Int.le_trans hGI.1.2.2.2 hB9⟩)) (fun _ _ _ h9 => h9.1) (fun _ _ _ h9 => h9.1.1)) (vx_cwSW 3 hts gL_law_L_hours rfl rfl rfl (by decide +kernel) ⟨Nat.le_of_ble_eq_true rfl, Nat.le_of_ble_eq_true rfl⟩) hP hD (hK.sub [0, 1, 2, 3, 4, 5, 6, 7, 8, 9, 10, 11] rfl) hS hA hev rfl hl.1 rfl (Nat.le_of_ble_eq_true rfl) dL_law_248 ⟨by show _ + 1 ≤ 601024; omega, by show _ + 6 ≤ 7293034; omega⟩ (fun r u H locs hw hP hD hS => ?_)
  obtain ⟨⟨L2, f2⟩, fo2⟩ := u
  obtain ⟨hW2, hE2, hw⟩ := hw
  have hE2 : Ext L f L2 f2 := hE2
  have hco : CO g L f L2 f2 (x0, wk, vs, cl, ru, va) (hrS z_2 (i, a)) r (fo2 0) := co1 hSR hE2 (by decide) hw
  obtain ⟨z_3, rfl⟩ : ∃ z : Int32, r = some (.int z) := ⟨_, hco.1⟩
  have hP : va_P (dC, dI) vwCl ((va_pl L2 f2 ++ [(ou, .inl (co, 1, .inr (.inl fo2)))]) ++ mw gm m0 bm i a) _ := hP
  have hD : va_D _ ((va_pl L2 f2 ++ [(ou, .inl (co, 1, .inr (.inl fo2)))]) ++ mw gm m0 bm i a) := hD
  refine W.eq (g2 := F0 m 251 ls [.int z_3]) rfl ?_
  refine lv_istore (lv' := [(5, .int z_3), (4, .int ii), (3, .ref ou), (2, .ref m0), (1, .ref x0), (0, .ref b)]) hx hb dL_law_251 hl (by decide) rfl (fun ls hl => ?_)
  refine lv_aload_n hx hb dL_law_253 rfl (lv_at hl 3 rfl) ?_
  refine lv_aload_n hx hb dL_law_254 rfl (lv_at hl 5 rfl) ?_
  refine lv_iload hx hb dL_law_255 (lv_at hl 1 rfl) ?_
  refine lv_iconst (v := 1) hx hb dL_law_257 (by decide) ?_
  refine lv_iadd hx hb dL_law_258 ?_
  refine lv_topi (fun z_4 ez_4 => ?_)
  refine va_sld hx hb hX hbl hbA hS (sc_in ez_4 hii (by decide : (1 : Int32) = nI 1) (by decide) ht hLn) dL_law_259 ?_
  refine lv_topi (fun z_5 ez_5 => ?_)
  refine NV_V ⟨hx, hb, hml, hown, hts⟩ (m_X10_hoursE l dC dI sa gm m0 bm i a z_5 _ hGI.2.2) (cwV 1 hts gL_law_X10_hours rfl rfl rfl (by decide +kernel) ⟨Nat.le_of_ble_eq_true rfl, Nat.le_of_ble_eq_true rfl⟩) hP hD (hK.sub [12, 13, 14, 15, 16, 17, 18, 19, 20, 21, 22, 23, 24, 25, 26, 27, 28, 29, 30, 31, 32, 33, 34, 35, 36, 37, 38, 39, 40] rfl) hS hA hev rfl rfl rfl rfl hl.1 rfl (Nat.le_of_ble_eq_true rfl) dL_law_260 ⟨by show _ + 0 ≤ 601024; omega, by show _ + 0 ≤ 7293034; omega⟩ (fun r u H locs hw hP hD hS => ?_)
  obtain ⟨x0_6, x1_7, y5_8, y6_9, y7_10, y10_11, y11_12⟩ := u
  have hw : (∃ z : Int32, r = some (.int z)) ∧ (x0_6 = (hrS z_5 (i, a)).1 ∧ ((hrS z_5 (i, a)).1 = 0 → r = some (.int (hrS z_5 (i, a)).2.1)) ∧ x1_7 = (hrS z_5 (i, a)).2.2.1 1 ∧ y5_8 = (hrS z_5 (i, a)).2.2.2 5 ∧ y6_9 = (hrS z_5 (i, a)).2.2.2 6 ∧ y7_10 = (hrS z_5 (i, a)).2.2.2 7 ∧ y10_11 = (hrS z_5 (i, a)).2.2.2 10 ∧ y11_12 = (hrS z_5 (i, a)).2.2.2 11) := hw
  obtain ⟨⟨z_13, rfl⟩, hwP⟩ := hw
  have hab0 : z_5 = z_2 := by rw [ez_5, ez_4, ez_2, ez_1]
  rw [hab0] at hwP
  obtain ⟨hm0, hm1, hn1, hn5, hn6, hn7, hn10, hn11⟩ := hwP
  obtain ⟨hth, hout, hI2⟩ := both_op (K := [1]) (KA_ := [5, 6, 7, 10, 11]) (i2 := (va_up (va_up i 0 x0_6) 1 x1_7)) (a2 := (va_up (va_up (va_up (va_up (va_up a 5 y5_8) 6 y6_9) 7 y7_10) 10 y10_11) 11 y11_12)) hI hW2 hE2 hco (hGI.hr hB9) fx_hr hm0 hm1 (Eqx.up (by decide) (Eqx.up (by decide) Eqx.rf)) (Eqx.up (by decide) (Eqx.up (by decide) (Eqx.up (by decide) (Eqx.up (by decide) (Eqx.up (by decide) Eqx.rf))))) (by intro k hk; simp only [List.mem_cons, List.not_mem_nil, or_false] at hk; rcases hk with rfl <;> assumption) (by intro k hk; simp only [List.mem_cons, List.not_mem_nil, or_false] at hk; rcases hk with rfl | rfl | rfl | rfl | rfl <;> assumption) (by decide) (by decide)
  have hP : va_P (dC, dI) vwCl ((va_pl L2 f2 ++ [(ou, .inl (co, 1, .inr (.inl fo2)))]) ++ mw gm m0 bm (va_up (va_up i 0 x0_6) 1 x1_7) (va_up (va_up (va_up (va_up (va_up a 5 y5_8) 6 y6_9) 7 y7_10) 10 y10_11) 11 y11_12)) _ := hP
  have hD : va_D _ ((va_pl L2 f2 ++ [(ou, .inl (co, 1, .inr (.inl fo2)))]) ++ mw gm m0 bm (va_up (va_up i 0 x0_6) 1 x1_7) (va_up (va_up (va_up (va_up (va_up a 5 y5_8) 6 y6_9) 7 y7_10) 10 y10_11) 11 y11_12)) := hD
  refine W.eq (g2 := F0 m 263 ls [.int z_13]) rfl ?_
  refine lv_istore (lv' := [(6, .int z_13), (5, .int z_3), (4, .int ii), (3, .ref ou), (2, .ref m0), (1, .ref x0), (0, .ref b)]) hx hb dL_law_263 hl (by decide) rfl (fun ls hl => ?_)
  refine lv_goto (tgt := 938) hx hb dL_law_265 (by decide) ?_
  exact W.widen (by omega) (by omega) (hk L2 f2 fo2 (va_up (va_up i 0 x0_6) 1 x1_7) (va_up (va_up (va_up (va_up (va_up a 5 y5_8) 6 y6_9) 7 y7_10) 10 y10_11) 11 y11_12) _ _ _ (hI2.mo (by omega)) hP hD hS (lv_sub hl [2, 3, 4, 5, 6] rfl))

set_option maxHeartbeats 4000000 in
set_option maxRecDepth 100000 in
theorem lo_cloth {p : Program} {l : Launch} {e : Env} {s : State} {m : MethodId} {below : List Frame} {meth : Method} {c : Code} {b Ln : Nat} {xs : Nat → Int32} (hlt : l.stackTraces = false) (C0 : lw_At p s m meth c b Ln xs) (hLn : Ln ≤ 3072) {dC : Nat → ClassId} {dI : Nat → Nat → Nat} {sa : Nat → Nat} (hev : ev sa (fun q : Nat => s.heap.size ≤ q) s s.heap) {x0 rdr tok tp ka sta vaa wk vs cl ru pl tvr tc rc m0 ou : Nat} {va tv : Nat → Nat} {co : ClassId} {g gm bm : Nat → Nat} (hK : va_K (dC, dI) vwCl (tyG g ++ [(co, .long)] ++ tyM gm) s) {L : List Nat} {f : Nat → va_E} {fo : Nat → Int64} {i : Nat → Int32} {a : Nat → Nat → Int32} {H : Heap} {locs : List Loc} {ls : Array Slot} {cells slots t : Nat} {ii : Int32} (hI : LI g ((x0, rdr, tok, tp, ka, sta, vaa), (wk, vs, cl, ru, va), (pl, tvr, tc, tv), rc) ((10000 * t : Nat) : Int) L f i a) (hP : va_P (dC, dI) vwCl ((va_pl L f ++ [(ou, .inl (co, 1, .inr (.inl fo)))]) ++ mw gm m0 bm i a) H) (hD : va_D (fun q : Nat => s.heap.size ≤ q) ((va_pl L f ++ [(ou, .inl (co, 1, .inr (.inl fo)))]) ++ mw gm m0 bm i a)) (hS : va_S (fun q : Nat => s.heap.size ≤ q) s.heap H locs) (hl : lv_has ls 7 [(4, .int ii), (3, .ref ou), (2, .ref m0), (1, .ref x0), (0, .ref b)]) (hii : ii = nI (6 * t)) (ht : 6 * t + 6 ≤ Ln) (hc : cells + 303 ≤ 601024) (hs : slots + 2415 ≤ 7293034) (hk : ∀ (L2 : List Nat) (f2 : Nat → va_E) (fo2 : Nat → Int64) (i2 : Nat → Int32) (a2 : Nat → Nat → Int32) (H : Heap) (locs : List Loc) (ls : Array Slot), LI g ((x0, rdr, tok, tp, ka, sta, vaa), (wk, vs, cl, ru, va), (pl, tvr, tc, tv), rc) ((10000 * (t + 1) : Nat) : Int) L2 f2 i2 a2 → va_P (dC, dI) vwCl ((va_pl L2 f2 ++ [(ou, .inl (co, 1, .inr (.inl fo2)))]) ++ mw gm m0 bm i2 a2) H → va_D (fun q : Nat => s.heap.size ≤ q) ((va_pl L2 f2 ++ [(ou, .inl (co, 1, .inr (.inl fo2)))]) ++ mw gm m0 bm i2 a2) → va_S (fun q : Nat => s.heap.size ≤ q) s.heap H locs → lv_has ls 7 [(4, .int ii), (3, .ref ou), (2, .ref m0), (1, .ref x0), (0, .ref b)] → W p l e room_1 s m #[Value.ref b] below meth c H locs (cells + 303) (slots + 2415) (lw_Z below #[Value.ref b] s) (F0 m 938 ls [])) : W p l e room_1 s m #[Value.ref b] below meth c H locs cells slots (lw_Z below #[Value.ref b] s) (F0 m 268 ls []) := by
  obtain ⟨hx, hb, hr, hml, hown, hts, hX, hbl, hlocks, hgv⟩ := id C0
  have hown : s.vm.findClass RL = some m.cls := hown
  have hA : ∀ q : Nat, s.heap.size ≤ q → (fun q : Nat => s.heap.size ≤ q) q := fun _ h => h
  have hbA : ¬ (fun q : Nat => s.heap.size ≤ q) b := Nat.not_le.mpr hbl
  obtain ⟨hT0, ⟨⟨hRF, tt, hCN, hag⟩, ⟨hSR, h7, hPL⟩, hTE⟩, hGI, ht2, hBI, hkp⟩ := id hI
  have hB9 : ((10000 * t : Nat) : Int) ≤ 9000000 := by omega
  refine lv_aload_n hx hb dL_law_268 rfl (lv_at hl 3 rfl) ?_
  refine lv_aload_n hx hb dL_law_269 rfl (lv_at hl 4 rfl) ?_
  refine lv_iload hx hb dL_law_270 (lv_at hl 0 rfl) ?_
  refine lv_iconst (v := 1) hx hb dL_law_272 (by decide) ?_
  refine lv_iadd hx hb dL_law_273 ?_
  refine lv_topi (fun z_1 ez_1 => ?_)
  refine va_sld hx hb hX hbl hbA hS (sc_in ez_1 hii (by decide : (1 : Int32) = nI 1) (by decide) ht hLn) dL_law_274 ?_
  refine lv_topi (fun z_2 ez_2 => ?_)
  rw [List.append_assoc] at hP hD
  refine NU_V ⟨hx, hb, hml, hown, hts⟩ (t_X9_clothT l dC dI sa hlt g _ _ va (i, a) x0 z_2 wk vs cl ru _ (hT0.sub [0, 7, 8, 9, 10] rfl) hSR.1.2.1 hSR.1.2.2.2.2.1 hSR.1.2.2.1 hSR.1.2.2.2.1 hSR ⟨hGI.1.1, hGI.1.2.1, hGI.1.2.2.1, Int.le_trans hGI.1.2.2.2 hB9⟩ hGI.2.1) (cwV 1 hts gL_law_X9_cloth rfl rfl rfl (by decide +kernel) ⟨Nat.le_of_ble_eq_true rfl, Nat.le_of_ble_eq_true rfl⟩) hP hD (hK.sub [0, 1, 2, 3, 4, 5, 6, 7, 8, 9, 10] rfl) hS hA hev hT0 0 9 rfl rfl rfl rfl hl.1 rfl (Nat.le_of_ble_eq_true rfl) dL_law_275 ⟨by show _ + 1 ≤ 601024; omega, by show _ + 8 ≤ 7293034; omega⟩ (fun r L2 f2 H locs hw hT2 hE2 hP hD hS => ?_)
  rw [← List.append_assoc] at hP hD
  have hW2 := hT2.1
  obtain ⟨⟨z_3, rfl⟩, hFr, v9, s9, hc1, hc2, hc3, hc4⟩ := hw
  have hP : va_P (dC, dI) vwCl ((va_pl L2 f2 ++ [(ou, .inl (co, 1, .inr (.inl fo)))]) ++ mw gm m0 bm i a) _ := hP
  have hD : va_D _ ((va_pl L2 f2 ++ [(ou, .inl (co, 1, .inr (.inl fo)))]) ++ mw gm m0 bm i a) := hD
  refine W.eq (g2 := F0 m 278 ls [.int z_3]) rfl ?_
  refine lv_pop hx hb dL_law_278 rfl ?_
  refine lv_aload_n hx hb dL_law_279 rfl (lv_at hl 2 rfl) ?_
  refine lv_aload_n hx hb dL_law_280 rfl (lv_at hl 4 rfl) ?_
  refine lv_iload hx hb dL_law_281 (lv_at hl 0 rfl) ?_
  refine lv_iconst (v := 1) hx hb dL_law_283 (by decide) ?_
  refine lv_iadd hx hb dL_law_284 ?_
  refine lv_topi (fun z_4 ez_4 => ?_)
  refine va_sld hx hb hX hbl hbA hS (sc_in ez_4 hii (by decide : (1 : Int32) = nI 1) (by decide) ht hLn) dL_law_285 ?_
  refine lv_topi (fun z_5 ez_5 => ?_)
  refine NV_V ⟨hx, hb, hml, hown, hts⟩ (m_X10_clothE l dC dI sa gm m0 bm i a z_5 _ hGI.1.2.1) (cwV 1 hts gL_law_X10_cloth rfl rfl rfl (by decide +kernel) ⟨Nat.le_of_ble_eq_true rfl, Nat.le_of_ble_eq_true rfl⟩) hP hD (hK.sub [12, 13, 14, 15, 16, 17, 18, 19, 20, 21, 22, 23, 24, 25, 26, 27, 28, 29, 30, 31, 32, 33, 34, 35, 36, 37, 38, 39, 40] rfl) hS hA hev rfl rfl rfl rfl hl.1 rfl (Nat.le_of_ble_eq_true rfl) dL_law_286 ⟨by show _ + 0 ≤ 601024; omega, by show _ + 0 ≤ 7293034; omega⟩ (fun r u H locs hw hP hD hS => ?_)
  obtain ⟨x0_6, x12_7, y13_8⟩ := u
  have hw : (∃ z : Int32, r = some (.int z)) ∧ (x0_6 = (clS z_5 (i, a)).1 ∧ ((clS z_5 (i, a)).1 = 0 → r = some (.int (clS z_5 (i, a)).2.1)) ∧ x12_7 = (clS z_5 (i, a)).2.2.1 12 ∧ y13_8 = (clS z_5 (i, a)).2.2.2 13) := hw
  obtain ⟨⟨z_9, rfl⟩, hwP⟩ := hw
  have hab0 : z_5 = z_2 := by rw [ez_5, ez_4, ez_2, ez_1]
  rw [hab0] at hwP
  have hI2 := LI.clo hI hW2 hE2 hFr (by decide) ⟨v9, s9, hc1, hc2, hc3⟩ hc4 hwP
  have hP : va_P (dC, dI) vwCl ((va_pl L2 f2 ++ [(ou, .inl (co, 1, .inr (.inl fo)))]) ++ mw gm m0 bm (va_up (va_up i 0 x0_6) 12 x12_7) (va_up a 13 y13_8)) _ := hP
  have hD : va_D _ ((va_pl L2 f2 ++ [(ou, .inl (co, 1, .inr (.inl fo)))]) ++ mw gm m0 bm (va_up (va_up i 0 x0_6) 12 x12_7) (va_up a 13 y13_8)) := hD
  refine W.eq (g2 := F0 m 289 ls [.int z_9]) rfl ?_
  refine lv_pop hx hb dL_law_289 rfl ?_
  refine lv_goto (tgt := 938) hx hb dL_law_290 (by decide) ?_
  exact W.widen (by omega) (by omega) (hk L2 f2 fo (va_up (va_up i 0 x0_6) 12 x12_7) (va_up a 13 y13_8) _ _ _ (hI2.mo (by omega)) hP hD hS (lv_sub hl [0, 1, 2, 3, 4] rfl))

set_option maxHeartbeats 4000000 in
set_option maxRecDepth 100000 in
theorem lo_dip {p : Program} {l : Launch} {e : Env} {s : State} {m : MethodId} {below : List Frame} {meth : Method} {c : Code} {b Ln : Nat} {xs : Nat → Int32} (hlt : l.stackTraces = false) (C0 : lw_At p s m meth c b Ln xs) (hLn : Ln ≤ 3072) {dC : Nat → ClassId} {dI : Nat → Nat → Nat} {sa : Nat → Nat} (hev : ev sa (fun q : Nat => s.heap.size ≤ q) s s.heap) {x0 rdr tok tp ka sta vaa wk vs cl ru pl tvr tc rc m0 ou : Nat} {va tv : Nat → Nat} {co : ClassId} {g gm bm : Nat → Nat} (hK : va_K (dC, dI) vwCl (tyG g ++ [(co, .long)] ++ tyM gm) s) {L : List Nat} {f : Nat → va_E} {fo : Nat → Int64} {i : Nat → Int32} {a : Nat → Nat → Int32} {H : Heap} {locs : List Loc} {ls : Array Slot} {cells slots t : Nat} {ii : Int32} (hI : LI g ((x0, rdr, tok, tp, ka, sta, vaa), (wk, vs, cl, ru, va), (pl, tvr, tc, tv), rc) ((10000 * t : Nat) : Int) L f i a) (hP : va_P (dC, dI) vwCl ((va_pl L f ++ [(ou, .inl (co, 1, .inr (.inl fo)))]) ++ mw gm m0 bm i a) H) (hD : va_D (fun q : Nat => s.heap.size ≤ q) ((va_pl L f ++ [(ou, .inl (co, 1, .inr (.inl fo)))]) ++ mw gm m0 bm i a)) (hS : va_S (fun q : Nat => s.heap.size ≤ q) s.heap H locs) (hl : lv_has ls 7 [(4, .int ii), (3, .ref ou), (2, .ref m0), (1, .ref x0), (0, .ref b)]) (hii : ii = nI (6 * t)) (ht : 6 * t + 6 ≤ Ln) (hc : cells + 303 ≤ 601024) (hs : slots + 2415 ≤ 7293034) (hk : ∀ (L2 : List Nat) (f2 : Nat → va_E) (fo2 : Nat → Int64) (i2 : Nat → Int32) (a2 : Nat → Nat → Int32) (H : Heap) (locs : List Loc) (ls : Array Slot), LI g ((x0, rdr, tok, tp, ka, sta, vaa), (wk, vs, cl, ru, va), (pl, tvr, tc, tv), rc) ((10000 * (t + 1) : Nat) : Int) L2 f2 i2 a2 → va_P (dC, dI) vwCl ((va_pl L2 f2 ++ [(ou, .inl (co, 1, .inr (.inl fo2)))]) ++ mw gm m0 bm i2 a2) H → va_D (fun q : Nat => s.heap.size ≤ q) ((va_pl L2 f2 ++ [(ou, .inl (co, 1, .inr (.inl fo2)))]) ++ mw gm m0 bm i2 a2) → va_S (fun q : Nat => s.heap.size ≤ q) s.heap H locs → lv_has ls 7 [(4, .int ii), (3, .ref ou), (2, .ref m0), (1, .ref x0), (0, .ref b)] → W p l e room_1 s m #[Value.ref b] below meth c H locs (cells + 303) (slots + 2415) (lw_Z below #[Value.ref b] s) (F0 m 938 ls [])) : W p l e room_1 s m #[Value.ref b] below meth c H locs cells slots (lw_Z below #[Value.ref b] s) (F0 m 293 ls []) := by
  obtain ⟨hx, hb, hr, hml, hown, hts, hX, hbl, hlocks, hgv⟩ := id C0
  have hown : s.vm.findClass RL = some m.cls := hown
  have hA : ∀ q : Nat, s.heap.size ≤ q → (fun q : Nat => s.heap.size ≤ q) q := fun _ h => h
  have hbA : ¬ (fun q : Nat => s.heap.size ≤ q) b := Nat.not_le.mpr hbl
  obtain ⟨hT0, ⟨⟨hRF, tt, hCN, hag⟩, ⟨hSR, h7, hPL⟩, hTE⟩, hGI, ht2, hBI, hkp⟩ := id hI
  have hB9 : ((10000 * t : Nat) : Int) ≤ 9000000 := by omega
  refine lv_aload_n hx hb dL_law_293 rfl (lv_at hl 3 rfl) ?_
  refine lv_aload_n hx hb dL_law_294 rfl (lv_at hl 4 rfl) ?_
  refine lv_iload hx hb dL_law_295 (lv_at hl 0 rfl) ?_
  refine lv_iconst (v := 1) hx hb dL_law_297 (by decide) ?_
  refine lv_iadd hx hb dL_law_298 ?_
  refine lv_topi (fun z_1 ez_1 => ?_)
  refine va_sld hx hb hX hbl hbA hS (sc_in ez_1 hii (by decide : (1 : Int32) = nI 1) (by decide) ht hLn) dL_law_299 ?_
  refine lv_topi (fun z_2 ez_2 => ?_)
  refine lv_aload_n hx hb dL_law_300 rfl (lv_at hl 4 rfl) ?_
  refine lv_iload hx hb dL_law_301 (lv_at hl 0 rfl) ?_
  refine lv_iconst (v := 2) hx hb dL_law_303 (by decide) ?_
  refine lv_iadd hx hb dL_law_304 ?_
  refine lv_topi (fun z_3 ez_3 => ?_)
  refine va_sld hx hb hX hbl hbA hS (sc_in ez_3 hii (by decide : (2 : Int32) = nI 2) (by decide) ht hLn) dL_law_305 ?_
  refine lv_topi (fun z_4 ez_4 => ?_)
  refine lv_aload_n hx hb dL_law_306 rfl (lv_at hl 4 rfl) ?_
  refine lv_iload hx hb dL_law_307 (lv_at hl 0 rfl) ?_
  refine lv_iconst (v := 3) hx hb dL_law_309 (by decide) ?_
  refine lv_iadd hx hb dL_law_310 ?_
  refine lv_topi (fun z_5 ez_5 => ?_)
  refine va_sld hx hb hX hbl hbA hS (sc_in ez_5 hii (by decide : (3 : Int32) = nI 3) (by decide) ht hLn) dL_law_311 ?_
  refine lv_topi (fun z_6 ez_6 => ?_)
  refine lv_aload_n hx hb dL_law_312 rfl (lv_at hl 1 rfl) ?_
  refine NW_S (hh := [(0, 12, 15, 13), (0, 12, 19, 18)]) ⟨hx, hb, hml, hown, hts⟩ (wS_dip l dC dI sa g _ _ x0 ou co _ z_2 z_4 z_6 _ (hT0.sub [0] rfl) (fun sz => (t_X9_dipS l dC dI sa hlt g _ _ va (i, a) x0 z_2 z_4 z_6 wk vs cl ru sz (hT0.sub [0, 7, 8, 9, 10] rfl) hSR.1.2.1 hSR.1.2.2.2.2.1 hSR.1.2.2.1 hSR.1.2.2.2.1 hSR ⟨hGI.1.1, hGI.1.2.1, hGI.1.2.2.1, Int.le_trans hGI.1.2.2.2 hB9⟩)) (fun _ _ _ h9 => h9.1) (fun _ _ _ h9 => h9.1.imp (fun q9 => q9.1) (fun q9 => q9.1))) (vx_cwSW 5 hts gL_law_L_dip rfl rfl rfl (by decide +kernel) ⟨Nat.le_of_ble_eq_true rfl, Nat.le_of_ble_eq_true rfl⟩) hP hD (hK.sub [0, 1, 2, 3, 4, 5, 6, 7, 8, 9, 10, 11] rfl) hS hA hev rfl hl.1 rfl (Nat.le_of_ble_eq_true rfl) dL_law_313 ⟨by show _ + 3 ≤ 601024; omega, by show _ + 18 ≤ 7293034; omega⟩ (fun r u H locs hw hP hD hS => ?_)
  obtain ⟨⟨L2, f2⟩, fo2⟩ := u
  obtain ⟨hW2, hE2, hw⟩ := hw
  have hE2 : Ext L f L2 f2 := hE2
  have hco : CO g L f L2 f2 (x0, wk, vs, cl, ru, va) (dpS z_2 z_4 z_6 (i, a)) r (fo2 0) := co2 hSR hE2 (by decide) (by decide) (by decide) hw
  obtain ⟨z_7, rfl⟩ : ∃ z : Int32, r = some (.int z) := ⟨_, hco.1⟩
  have hP : va_P (dC, dI) vwCl ((va_pl L2 f2 ++ [(ou, .inl (co, 1, .inr (.inl fo2)))]) ++ mw gm m0 bm i a) _ := hP
  have hD : va_D _ ((va_pl L2 f2 ++ [(ou, .inl (co, 1, .inr (.inl fo2)))]) ++ mw gm m0 bm i a) := hD
  refine W.eq (g2 := F0 m 316 ls [.int z_7]) rfl ?_
  refine lv_istore (lv' := [(5, .int z_7), (4, .int ii), (3, .ref ou), (2, .ref m0), (1, .ref x0), (0, .ref b)]) hx hb dL_law_316 hl (by decide) rfl (fun ls hl => ?_)
  refine lv_aload_n hx hb dL_law_318 rfl (lv_at hl 3 rfl) ?_
  refine lv_aload_n hx hb dL_law_319 rfl (lv_at hl 5 rfl) ?_
  refine lv_iload hx hb dL_law_320 (lv_at hl 1 rfl) ?_
  refine lv_iconst (v := 1) hx hb dL_law_322 (by decide) ?_
  refine lv_iadd hx hb dL_law_323 ?_
  refine lv_topi (fun z_8 ez_8 => ?_)
  refine va_sld hx hb hX hbl hbA hS (sc_in ez_8 hii (by decide : (1 : Int32) = nI 1) (by decide) ht hLn) dL_law_324 ?_
  refine lv_topi (fun z_9 ez_9 => ?_)
  refine lv_aload_n hx hb dL_law_325 rfl (lv_at hl 5 rfl) ?_
  refine lv_iload hx hb dL_law_326 (lv_at hl 1 rfl) ?_
  refine lv_iconst (v := 2) hx hb dL_law_328 (by decide) ?_
  refine lv_iadd hx hb dL_law_329 ?_
  refine lv_topi (fun z_10 ez_10 => ?_)
  refine va_sld hx hb hX hbl hbA hS (sc_in ez_10 hii (by decide : (2 : Int32) = nI 2) (by decide) ht hLn) dL_law_330 ?_
  refine lv_topi (fun z_11 ez_11 => ?_)
  refine lv_aload_n hx hb dL_law_331 rfl (lv_at hl 5 rfl) ?_
  refine lv_iload hx hb dL_law_332 (lv_at hl 1 rfl) ?_
  refine lv_iconst (v := 3) hx hb dL_law_334 (by decide) ?_
  refine lv_iadd hx hb dL_law_335 ?_
  refine lv_topi (fun z_12 ez_12 => ?_)
  refine va_sld hx hb hX hbl hbA hS (sc_in ez_12 hii (by decide : (3 : Int32) = nI 3) (by decide) ht hLn) dL_law_336 ?_
  refine lv_topi (fun z_13 ez_13 => ?_)
  refine NV_V ⟨hx, hb, hml, hown, hts⟩ (m_X10_dipE l dC dI sa gm m0 bm i a z_9 z_11 z_13 _ hGI.1.2.1) (cwV 3 hts gL_law_X10_dip rfl rfl rfl (by decide +kernel) ⟨Nat.le_of_ble_eq_true rfl, Nat.le_of_ble_eq_true rfl⟩) hP hD (hK.sub [12, 13, 14, 15, 16, 17, 18, 19, 20, 21, 22, 23, 24, 25, 26, 27, 28, 29, 30, 31, 32, 33, 34, 35, 36, 37, 38, 39, 40] rfl) hS hA hev rfl rfl rfl rfl hl.1 rfl (Nat.le_of_ble_eq_true rfl) dL_law_337 ⟨by show _ + 0 ≤ 601024; omega, by show _ + 0 ≤ 7293034; omega⟩ (fun r u H locs hw hP hD hS => ?_)
  obtain ⟨x0_14, y4_15, y5_16, y6_17, y7_18, y8_19, y9_20, y10_21, y14_22, y17_23, y18_24⟩ := u
  have hw : (∃ z : Int32, r = some (.int z)) ∧ (x0_14 = (dpS z_9 z_11 z_13 (i, a)).1 ∧ ((dpS z_9 z_11 z_13 (i, a)).1 = 0 → r = some (.int (dpS z_9 z_11 z_13 (i, a)).2.1)) ∧ y4_15 = (dpS z_9 z_11 z_13 (i, a)).2.2.2 4 ∧ y5_16 = (dpS z_9 z_11 z_13 (i, a)).2.2.2 5 ∧ y6_17 = (dpS z_9 z_11 z_13 (i, a)).2.2.2 6 ∧ y7_18 = (dpS z_9 z_11 z_13 (i, a)).2.2.2 7 ∧ y8_19 = (dpS z_9 z_11 z_13 (i, a)).2.2.2 8 ∧ y9_20 = (dpS z_9 z_11 z_13 (i, a)).2.2.2 9 ∧ y10_21 = (dpS z_9 z_11 z_13 (i, a)).2.2.2 10 ∧ y14_22 = (dpS z_9 z_11 z_13 (i, a)).2.2.2 14 ∧ y17_23 = (dpS z_9 z_11 z_13 (i, a)).2.2.2 17 ∧ y18_24 = (dpS z_9 z_11 z_13 (i, a)).2.2.2 18) := hw
  obtain ⟨⟨z_25, rfl⟩, hwP⟩ := hw
  have hab0 : z_9 = z_2 := by rw [ez_9, ez_8, ez_2, ez_1]
  have hab1 : z_11 = z_4 := by rw [ez_11, ez_10, ez_4, ez_3]
  have hab2 : z_13 = z_6 := by rw [ez_13, ez_12, ez_6, ez_5]
  rw [hab0, hab1, hab2] at hwP
  obtain ⟨hm0, hm1, hn4, hn5, hn6, hn7, hn8, hn9, hn10, hn14, hn17, hn18⟩ := hwP
  obtain ⟨hth, hout, hI2⟩ := both_op (K := []) (KA_ := [4, 5, 6, 7, 8, 9, 10, 14, 17, 18]) (i2 := (va_up i 0 x0_14)) (a2 := (va_up (va_up (va_up (va_up (va_up (va_up (va_up (va_up (va_up (va_up a 4 y4_15) 5 y5_16) 6 y6_17) 7 y7_18) 8 y8_19) 9 y9_20) 10 y10_21) 14 y14_22) 17 y17_23) 18 y18_24)) hI hW2 hE2 hco hGI.dp fx_dp hm0 hm1 (Eqx.up (by decide) Eqx.rf) (Eqx.up (by decide) (Eqx.up (by decide) (Eqx.up (by decide) (Eqx.up (by decide) (Eqx.up (by decide) (Eqx.up (by decide) (Eqx.up (by decide) (Eqx.up (by decide) (Eqx.up (by decide) (Eqx.up (by decide) Eqx.rf)))))))))) (fun k hk => absurd hk (by simp)) (by intro k hk; simp only [List.mem_cons, List.not_mem_nil, or_false] at hk; rcases hk with rfl | rfl | rfl | rfl | rfl | rfl | rfl | rfl | rfl | rfl <;> assumption) (by decide) (by decide)
  have hP : va_P (dC, dI) vwCl ((va_pl L2 f2 ++ [(ou, .inl (co, 1, .inr (.inl fo2)))]) ++ mw gm m0 bm (va_up i 0 x0_14) (va_up (va_up (va_up (va_up (va_up (va_up (va_up (va_up (va_up (va_up a 4 y4_15) 5 y5_16) 6 y6_17) 7 y7_18) 8 y8_19) 9 y9_20) 10 y10_21) 14 y14_22) 17 y17_23) 18 y18_24)) _ := hP
  have hD : va_D _ ((va_pl L2 f2 ++ [(ou, .inl (co, 1, .inr (.inl fo2)))]) ++ mw gm m0 bm (va_up i 0 x0_14) (va_up (va_up (va_up (va_up (va_up (va_up (va_up (va_up (va_up (va_up a 4 y4_15) 5 y5_16) 6 y6_17) 7 y7_18) 8 y8_19) 9 y9_20) 10 y10_21) 14 y14_22) 17 y17_23) 18 y18_24)) := hD
  refine W.eq (g2 := F0 m 340 ls [.int z_25]) rfl ?_
  refine lv_istore (lv' := [(6, .int z_25), (5, .int z_7), (4, .int ii), (3, .ref ou), (2, .ref m0), (1, .ref x0), (0, .ref b)]) hx hb dL_law_340 hl (by decide) rfl (fun ls hl => ?_)
  refine lv_goto (tgt := 938) hx hb dL_law_342 (by decide) ?_
  exact W.widen (by omega) (by omega) (hk L2 f2 fo2 (va_up i 0 x0_14) (va_up (va_up (va_up (va_up (va_up (va_up (va_up (va_up (va_up (va_up a 4 y4_15) 5 y5_16) 6 y6_17) 7 y7_18) 8 y8_19) 9 y9_20) 10 y10_21) 14 y14_22) 17 y17_23) 18 y18_24) _ _ _ (hI2.mo (by omega)) hP hD hS (lv_sub hl [2, 3, 4, 5, 6] rfl))

set_option maxHeartbeats 4000000 in
set_option maxRecDepth 100000 in
theorem lo_treat {p : Program} {l : Launch} {e : Env} {s : State} {m : MethodId} {below : List Frame} {meth : Method} {c : Code} {b Ln : Nat} {xs : Nat → Int32} (hlt : l.stackTraces = false) (C0 : lw_At p s m meth c b Ln xs) (hLn : Ln ≤ 3072) {dC : Nat → ClassId} {dI : Nat → Nat → Nat} {sa : Nat → Nat} (hev : ev sa (fun q : Nat => s.heap.size ≤ q) s s.heap) {x0 rdr tok tp ka sta vaa wk vs cl ru pl tvr tc rc m0 ou : Nat} {va tv : Nat → Nat} {co : ClassId} {g gm bm : Nat → Nat} (hK : va_K (dC, dI) vwCl (tyG g ++ [(co, .long)] ++ tyM gm) s) {L : List Nat} {f : Nat → va_E} {fo : Nat → Int64} {i : Nat → Int32} {a : Nat → Nat → Int32} {H : Heap} {locs : List Loc} {ls : Array Slot} {cells slots t : Nat} {ii : Int32} (hI : LI g ((x0, rdr, tok, tp, ka, sta, vaa), (wk, vs, cl, ru, va), (pl, tvr, tc, tv), rc) ((10000 * t : Nat) : Int) L f i a) (hP : va_P (dC, dI) vwCl ((va_pl L f ++ [(ou, .inl (co, 1, .inr (.inl fo)))]) ++ mw gm m0 bm i a) H) (hD : va_D (fun q : Nat => s.heap.size ≤ q) ((va_pl L f ++ [(ou, .inl (co, 1, .inr (.inl fo)))]) ++ mw gm m0 bm i a)) (hS : va_S (fun q : Nat => s.heap.size ≤ q) s.heap H locs) (hl : lv_has ls 7 [(4, .int ii), (3, .ref ou), (2, .ref m0), (1, .ref x0), (0, .ref b)]) (hii : ii = nI (6 * t)) (ht : 6 * t + 6 ≤ Ln) (hc : cells + 303 ≤ 601024) (hs : slots + 2415 ≤ 7293034) (hk : ∀ (L2 : List Nat) (f2 : Nat → va_E) (fo2 : Nat → Int64) (i2 : Nat → Int32) (a2 : Nat → Nat → Int32) (H : Heap) (locs : List Loc) (ls : Array Slot), LI g ((x0, rdr, tok, tp, ka, sta, vaa), (wk, vs, cl, ru, va), (pl, tvr, tc, tv), rc) ((10000 * (t + 1) : Nat) : Int) L2 f2 i2 a2 → va_P (dC, dI) vwCl ((va_pl L2 f2 ++ [(ou, .inl (co, 1, .inr (.inl fo2)))]) ++ mw gm m0 bm i2 a2) H → va_D (fun q : Nat => s.heap.size ≤ q) ((va_pl L2 f2 ++ [(ou, .inl (co, 1, .inr (.inl fo2)))]) ++ mw gm m0 bm i2 a2) → va_S (fun q : Nat => s.heap.size ≤ q) s.heap H locs → lv_has ls 7 [(4, .int ii), (3, .ref ou), (2, .ref m0), (1, .ref x0), (0, .ref b)] → W p l e room_1 s m #[Value.ref b] below meth c H locs (cells + 303) (slots + 2415) (lw_Z below #[Value.ref b] s) (F0 m 938 ls [])) : W p l e room_1 s m #[Value.ref b] below meth c H locs cells slots (lw_Z below #[Value.ref b] s) (F0 m 345 ls []) := by
  obtain ⟨hx, hb, hr, hml, hown, hts, hX, hbl, hlocks, hgv⟩ := id C0
  have hown : s.vm.findClass RL = some m.cls := hown
  have hA : ∀ q : Nat, s.heap.size ≤ q → (fun q : Nat => s.heap.size ≤ q) q := fun _ h => h
  have hbA : ¬ (fun q : Nat => s.heap.size ≤ q) b := Nat.not_le.mpr hbl
  obtain ⟨hT0, ⟨⟨hRF, tt, hCN, hag⟩, ⟨hSR, h7, hPL⟩, hTE⟩, hGI, ht2, hBI, hkp⟩ := id hI
  have hB9 : ((10000 * t : Nat) : Int) ≤ 9000000 := by omega
  refine lv_aload_n hx hb dL_law_345 rfl (lv_at hl 3 rfl) ?_
  refine lv_aload_n hx hb dL_law_346 rfl (lv_at hl 4 rfl) ?_
  refine lv_iload hx hb dL_law_347 (lv_at hl 0 rfl) ?_
  refine lv_iconst (v := 1) hx hb dL_law_349 (by decide) ?_
  refine lv_iadd hx hb dL_law_350 ?_
  refine lv_topi (fun z_1 ez_1 => ?_)
  refine va_sld hx hb hX hbl hbA hS (sc_in ez_1 hii (by decide : (1 : Int32) = nI 1) (by decide) ht hLn) dL_law_351 ?_
  refine lv_topi (fun z_2 ez_2 => ?_)
  refine lv_aload_n hx hb dL_law_352 rfl (lv_at hl 4 rfl) ?_
  refine lv_iload hx hb dL_law_353 (lv_at hl 0 rfl) ?_
  refine lv_iconst (v := 2) hx hb dL_law_355 (by decide) ?_
  refine lv_iadd hx hb dL_law_356 ?_
  refine lv_topi (fun z_3 ez_3 => ?_)
  refine va_sld hx hb hX hbl hbA hS (sc_in ez_3 hii (by decide : (2 : Int32) = nI 2) (by decide) ht hLn) dL_law_357 ?_
  refine lv_topi (fun z_4 ez_4 => ?_)
  refine lv_aload_n hx hb dL_law_358 rfl (lv_at hl 1 rfl) ?_
  refine NW_S (hh := [(0, 10, 13, 13), (0, 10, 17, 18)]) ⟨hx, hb, hml, hown, hts⟩ (wS_treat l dC dI sa g _ _ x0 ou co _ z_2 z_4 _ (hT0.sub [0] rfl) (fun sz => (t_X9_treatS l dC dI sa hlt g _ _ va (i, a) x0 z_2 z_4 wk vs cl ru sz (hT0.sub [0, 7, 8, 9, 10] rfl) hSR.1.2.1 hSR.1.2.2.2.2.1 hSR.1.2.2.1 hSR.1.2.2.2.1 hSR ⟨hGI.1.1, hGI.1.2.1, hGI.1.2.2.1, Int.le_trans hGI.1.2.2.2 hB9⟩)) (fun _ _ _ h9 => h9.1) (fun _ _ _ h9 => h9.1.imp (fun q9 => q9.1) (fun q9 => q9.1))) (vx_cwSW 4 hts gL_law_L_treat rfl rfl rfl (by decide +kernel) ⟨Nat.le_of_ble_eq_true rfl, Nat.le_of_ble_eq_true rfl⟩) hP hD (hK.sub [0, 1, 2, 3, 4, 5, 6, 7, 8, 9, 10, 11] rfl) hS hA hev rfl hl.1 rfl (Nat.le_of_ble_eq_true rfl) dL_law_359 ⟨by show _ + 2 ≤ 601024; omega, by show _ + 12 ≤ 7293034; omega⟩ (fun r u H locs hw hP hD hS => ?_)
  obtain ⟨⟨L2, f2⟩, fo2⟩ := u
  obtain ⟨hW2, hE2, hw⟩ := hw
  have hE2 : Ext L f L2 f2 := hE2
  have hco : CO g L f L2 f2 (x0, wk, vs, cl, ru, va) (trS z_2 z_4 (i, a)) r (fo2 0) := co2 hSR hE2 (by decide) (by decide) (by decide) hw
  obtain ⟨z_5, rfl⟩ : ∃ z : Int32, r = some (.int z) := ⟨_, hco.1⟩
  have hP : va_P (dC, dI) vwCl ((va_pl L2 f2 ++ [(ou, .inl (co, 1, .inr (.inl fo2)))]) ++ mw gm m0 bm i a) _ := hP
  have hD : va_D _ ((va_pl L2 f2 ++ [(ou, .inl (co, 1, .inr (.inl fo2)))]) ++ mw gm m0 bm i a) := hD
  refine W.eq (g2 := F0 m 362 ls [.int z_5]) rfl ?_
  refine lv_istore (lv' := [(5, .int z_5), (4, .int ii), (3, .ref ou), (2, .ref m0), (1, .ref x0), (0, .ref b)]) hx hb dL_law_362 hl (by decide) rfl (fun ls hl => ?_)
  refine lv_aload_n hx hb dL_law_364 rfl (lv_at hl 3 rfl) ?_
  refine lv_aload_n hx hb dL_law_365 rfl (lv_at hl 5 rfl) ?_
  refine lv_iload hx hb dL_law_366 (lv_at hl 1 rfl) ?_
  refine lv_iconst (v := 1) hx hb dL_law_368 (by decide) ?_
  refine lv_iadd hx hb dL_law_369 ?_
  refine lv_topi (fun z_6 ez_6 => ?_)
  refine va_sld hx hb hX hbl hbA hS (sc_in ez_6 hii (by decide : (1 : Int32) = nI 1) (by decide) ht hLn) dL_law_370 ?_
  refine lv_topi (fun z_7 ez_7 => ?_)
  refine lv_aload_n hx hb dL_law_371 rfl (lv_at hl 5 rfl) ?_
  refine lv_iload hx hb dL_law_372 (lv_at hl 1 rfl) ?_
  refine lv_iconst (v := 2) hx hb dL_law_374 (by decide) ?_
  refine lv_iadd hx hb dL_law_375 ?_
  refine lv_topi (fun z_8 ez_8 => ?_)
  refine va_sld hx hb hX hbl hbA hS (sc_in ez_8 hii (by decide : (2 : Int32) = nI 2) (by decide) ht hLn) dL_law_376 ?_
  refine lv_topi (fun z_9 ez_9 => ?_)
  refine NV_V ⟨hx, hb, hml, hown, hts⟩ (m_X10_treatE l dC dI sa gm m0 bm i a z_7 z_9 _ hGI.1.2.1) (cwV 2 hts gL_law_X10_treat rfl rfl rfl (by decide +kernel) ⟨Nat.le_of_ble_eq_true rfl, Nat.le_of_ble_eq_true rfl⟩) hP hD (hK.sub [12, 13, 14, 15, 16, 17, 18, 19, 20, 21, 22, 23, 24, 25, 26, 27, 28, 29, 30, 31, 32, 33, 34, 35, 36, 37, 38, 39, 40] rfl) hS hA hev rfl rfl rfl rfl hl.1 rfl (Nat.le_of_ble_eq_true rfl) dL_law_377 ⟨by show _ + 0 ≤ 601024; omega, by show _ + 0 ≤ 7293034; omega⟩ (fun r u H locs hw hP hD hS => ?_)
  obtain ⟨x0_10, x2_11, y14_12, y15_13, y16_14⟩ := u
  have hw : (∃ z : Int32, r = some (.int z)) ∧ (x0_10 = (trS z_7 z_9 (i, a)).1 ∧ ((trS z_7 z_9 (i, a)).1 = 0 → r = some (.int (trS z_7 z_9 (i, a)).2.1)) ∧ x2_11 = (trS z_7 z_9 (i, a)).2.2.1 2 ∧ y14_12 = (trS z_7 z_9 (i, a)).2.2.2 14 ∧ y15_13 = (trS z_7 z_9 (i, a)).2.2.2 15 ∧ y16_14 = (trS z_7 z_9 (i, a)).2.2.2 16) := hw
  obtain ⟨⟨z_15, rfl⟩, hwP⟩ := hw
  have hab0 : z_7 = z_2 := by rw [ez_7, ez_6, ez_2, ez_1]
  have hab1 : z_9 = z_4 := by rw [ez_9, ez_8, ez_4, ez_3]
  rw [hab0, hab1] at hwP
  obtain ⟨hm0, hm1, hn2, hn14, hn15, hn16⟩ := hwP
  obtain ⟨hth, hout, hI2⟩ := both_op (K := [2]) (KA_ := [14, 15, 16]) (i2 := (va_up (va_up i 0 x0_10) 2 x2_11)) (a2 := (va_up (va_up (va_up a 14 y14_12) 15 y15_13) 16 y16_14)) hI hW2 hE2 hco hGI.tr fx_tr hm0 hm1 (Eqx.up (by decide) (Eqx.up (by decide) Eqx.rf)) (Eqx.up (by decide) (Eqx.up (by decide) (Eqx.up (by decide) Eqx.rf))) (by intro k hk; simp only [List.mem_cons, List.not_mem_nil, or_false] at hk; rcases hk with rfl <;> assumption) (by intro k hk; simp only [List.mem_cons, List.not_mem_nil, or_false] at hk; rcases hk with rfl | rfl | rfl <;> assumption) (by decide) (by decide)
  have hP : va_P (dC, dI) vwCl ((va_pl L2 f2 ++ [(ou, .inl (co, 1, .inr (.inl fo2)))]) ++ mw gm m0 bm (va_up (va_up i 0 x0_10) 2 x2_11) (va_up (va_up (va_up a 14 y14_12) 15 y15_13) 16 y16_14)) _ := hP
  have hD : va_D _ ((va_pl L2 f2 ++ [(ou, .inl (co, 1, .inr (.inl fo2)))]) ++ mw gm m0 bm (va_up (va_up i 0 x0_10) 2 x2_11) (va_up (va_up (va_up a 14 y14_12) 15 y15_13) 16 y16_14)) := hD
  refine W.eq (g2 := F0 m 380 ls [.int z_15]) rfl ?_
  refine lv_istore (lv' := [(6, .int z_15), (5, .int z_5), (4, .int ii), (3, .ref ou), (2, .ref m0), (1, .ref x0), (0, .ref b)]) hx hb dL_law_380 hl (by decide) rfl (fun ls hl => ?_)
  refine lv_goto (tgt := 938) hx hb dL_law_382 (by decide) ?_
  exact W.widen (by omega) (by omega) (hk L2 f2 fo2 (va_up (va_up i 0 x0_10) 2 x2_11) (va_up (va_up (va_up a 14 y14_12) 15 y15_13) 16 y16_14) _ _ _ (hI2.mo (by omega)) hP hD hS (lv_sub hl [2, 3, 4, 5, 6] rfl))

set_option maxHeartbeats 4000000 in
set_option maxRecDepth 100000 in
theorem lo_put {p : Program} {l : Launch} {e : Env} {s : State} {m : MethodId} {below : List Frame} {meth : Method} {c : Code} {b Ln : Nat} {xs : Nat → Int32} (hlt : l.stackTraces = false) (C0 : lw_At p s m meth c b Ln xs) (hLn : Ln ≤ 3072) {dC : Nat → ClassId} {dI : Nat → Nat → Nat} {sa : Nat → Nat} (hev : ev sa (fun q : Nat => s.heap.size ≤ q) s s.heap) {x0 rdr tok tp ka sta vaa wk vs cl ru pl tvr tc rc m0 ou : Nat} {va tv : Nat → Nat} {co : ClassId} {g gm bm : Nat → Nat} (hK : va_K (dC, dI) vwCl (tyG g ++ [(co, .long)] ++ tyM gm) s) {L : List Nat} {f : Nat → va_E} {fo : Nat → Int64} {i : Nat → Int32} {a : Nat → Nat → Int32} {H : Heap} {locs : List Loc} {ls : Array Slot} {cells slots t : Nat} {ii : Int32} (hI : LI g ((x0, rdr, tok, tp, ka, sta, vaa), (wk, vs, cl, ru, va), (pl, tvr, tc, tv), rc) ((10000 * t : Nat) : Int) L f i a) (hP : va_P (dC, dI) vwCl ((va_pl L f ++ [(ou, .inl (co, 1, .inr (.inl fo)))]) ++ mw gm m0 bm i a) H) (hD : va_D (fun q : Nat => s.heap.size ≤ q) ((va_pl L f ++ [(ou, .inl (co, 1, .inr (.inl fo)))]) ++ mw gm m0 bm i a)) (hS : va_S (fun q : Nat => s.heap.size ≤ q) s.heap H locs) (hl : lv_has ls 7 [(4, .int ii), (3, .ref ou), (2, .ref m0), (1, .ref x0), (0, .ref b)]) (hii : ii = nI (6 * t)) (ht : 6 * t + 6 ≤ Ln) (hc : cells + 303 ≤ 601024) (hs : slots + 2415 ≤ 7293034) (hk : ∀ (L2 : List Nat) (f2 : Nat → va_E) (fo2 : Nat → Int64) (i2 : Nat → Int32) (a2 : Nat → Nat → Int32) (H : Heap) (locs : List Loc) (ls : Array Slot), LI g ((x0, rdr, tok, tp, ka, sta, vaa), (wk, vs, cl, ru, va), (pl, tvr, tc, tv), rc) ((10000 * (t + 1) : Nat) : Int) L2 f2 i2 a2 → va_P (dC, dI) vwCl ((va_pl L2 f2 ++ [(ou, .inl (co, 1, .inr (.inl fo2)))]) ++ mw gm m0 bm i2 a2) H → va_D (fun q : Nat => s.heap.size ≤ q) ((va_pl L2 f2 ++ [(ou, .inl (co, 1, .inr (.inl fo2)))]) ++ mw gm m0 bm i2 a2) → va_S (fun q : Nat => s.heap.size ≤ q) s.heap H locs → lv_has ls 7 [(4, .int ii), (3, .ref ou), (2, .ref m0), (1, .ref x0), (0, .ref b)] → W p l e room_1 s m #[Value.ref b] below meth c H locs (cells + 303) (slots + 2415) (lw_Z below #[Value.ref b] s) (F0 m 938 ls [])) : W p l e room_1 s m #[Value.ref b] below meth c H locs cells slots (lw_Z below #[Value.ref b] s) (F0 m 385 ls []) := by
  obtain ⟨hx, hb, hr, hml, hown, hts, hX, hbl, hlocks, hgv⟩ := id C0
  have hown : s.vm.findClass RL = some m.cls := hown
  have hA : ∀ q : Nat, s.heap.size ≤ q → (fun q : Nat => s.heap.size ≤ q) q := fun _ h => h
  have hbA : ¬ (fun q : Nat => s.heap.size ≤ q) b := Nat.not_le.mpr hbl
  obtain ⟨hT0, ⟨⟨hRF, tt, hCN, hag⟩, ⟨hSR, h7, hPL⟩, hTE⟩, hGI, ht2, hBI, hkp⟩ := id hI
  have hB9 : ((10000 * t : Nat) : Int) ≤ 9000000 := by omega
  refine lv_aload_n hx hb dL_law_385 rfl (lv_at hl 3 rfl) ?_
  refine lv_aload_n hx hb dL_law_386 rfl (lv_at hl 4 rfl) ?_
  refine lv_iload hx hb dL_law_387 (lv_at hl 0 rfl) ?_
  refine lv_iconst (v := 1) hx hb dL_law_389 (by decide) ?_
  refine lv_iadd hx hb dL_law_390 ?_
  refine lv_topi (fun z_1 ez_1 => ?_)
  refine va_sld hx hb hX hbl hbA hS (sc_in ez_1 hii (by decide : (1 : Int32) = nI 1) (by decide) ht hLn) dL_law_391 ?_
  refine lv_topi (fun z_2 ez_2 => ?_)
  refine lv_aload_n hx hb dL_law_392 rfl (lv_at hl 4 rfl) ?_
  refine lv_iload hx hb dL_law_393 (lv_at hl 0 rfl) ?_
  refine lv_iconst (v := 2) hx hb dL_law_395 (by decide) ?_
  refine lv_iadd hx hb dL_law_396 ?_
  refine lv_topi (fun z_3 ez_3 => ?_)
  refine va_sld hx hb hX hbl hbA hS (sc_in ez_3 hii (by decide : (2 : Int32) = nI 2) (by decide) ht hLn) dL_law_397 ?_
  refine lv_topi (fun z_4 ez_4 => ?_)
  refine lv_aload_n hx hb dL_law_398 rfl (lv_at hl 4 rfl) ?_
  refine lv_iload hx hb dL_law_399 (lv_at hl 0 rfl) ?_
  refine lv_iconst (v := 3) hx hb dL_law_401 (by decide) ?_
  refine lv_iadd hx hb dL_law_402 ?_
  refine lv_topi (fun z_5 ez_5 => ?_)
  refine va_sld hx hb hX hbl hbA hS (sc_in ez_5 hii (by decide : (3 : Int32) = nI 3) (by decide) ht hLn) dL_law_403 ?_
  refine lv_topi (fun z_6 ez_6 => ?_)
  refine lv_aload_n hx hb dL_law_404 rfl (lv_at hl 4 rfl) ?_
  refine lv_iload hx hb dL_law_405 (lv_at hl 0 rfl) ?_
  refine lv_iconst (v := 4) hx hb dL_law_407 (by decide) ?_
  refine lv_iadd hx hb dL_law_408 ?_
  refine lv_topi (fun z_7 ez_7 => ?_)
  refine va_sld hx hb hX hbl hbA hS (sc_in ez_7 hii (by decide : (4 : Int32) = nI 4) (by decide) ht hLn) dL_law_409 ?_
  refine lv_topi (fun z_8 ez_8 => ?_)
  refine lv_aload_n hx hb dL_law_410 rfl (lv_at hl 4 rfl) ?_
  refine lv_iload hx hb dL_law_411 (lv_at hl 0 rfl) ?_
  refine lv_iconst (v := 5) hx hb dL_law_413 (by decide) ?_
  refine lv_iadd hx hb dL_law_414 ?_
  refine lv_topi (fun z_9 ez_9 => ?_)
  refine va_sld hx hb hX hbl hbA hS (sc_in ez_9 hii (by decide : (5 : Int32) = nI 5) (by decide) ht hLn) dL_law_415 ?_
  refine lv_topi (fun z_10 ez_10 => ?_)
  rw [List.append_assoc] at hP hD
  refine NU_V ⟨hx, hb, hml, hown, hts⟩ (t_X9_putX l dC dI sa hlt g _ _ x0 z_2 z_4 z_6 z_8 z_10 tp (i 20) _ (hT0.sub [0, 3] rfl) hCN.1 hRF.1.1) (cwV 5 hts gL_law_X9_put rfl rfl rfl (by decide +kernel) ⟨Nat.le_of_ble_eq_true rfl, Nat.le_of_ble_eq_true rfl⟩) hP hD (hK.sub [0, 1, 2, 3, 4, 5, 6, 7, 8, 9, 10] rfl) hS hA hev hT0 0 9 rfl rfl rfl rfl hl.1 rfl (Nat.le_of_ble_eq_true rfl) dL_law_416 ⟨by show _ + 0 ≤ 601024; omega, by show _ + 0 ≤ 7293034; omega⟩ (fun r L2 f2 H locs hw hT2 hE2 hP hD hS => ?_)
  rw [← List.append_assoc] at hP hD
  have hW2 := hT2.1
  obtain ⟨⟨z_11, rfl⟩, hFr, mk2, hR2, -, hrel1⟩ := hw
  have hP : va_P (dC, dI) vwCl ((va_pl L2 f2 ++ [(ou, .inl (co, 1, .inr (.inl fo)))]) ++ mw gm m0 bm i a) _ := hP
  have hD : va_D _ ((va_pl L2 f2 ++ [(ou, .inl (co, 1, .inr (.inl fo)))]) ++ mw gm m0 bm i a) := hD
  refine W.eq (g2 := F0 m 419 ls [.int z_11]) rfl ?_
  refine lv_pop hx hb dL_law_419 rfl ?_
  refine lv_aload_n hx hb dL_law_420 rfl (lv_at hl 2 rfl) ?_
  refine lv_aload_n hx hb dL_law_421 rfl (lv_at hl 4 rfl) ?_
  refine lv_iload hx hb dL_law_422 (lv_at hl 0 rfl) ?_
  refine lv_iconst (v := 1) hx hb dL_law_424 (by decide) ?_
  refine lv_iadd hx hb dL_law_425 ?_
  refine lv_topi (fun z_12 ez_12 => ?_)
  refine va_sld hx hb hX hbl hbA hS (sc_in ez_12 hii (by decide : (1 : Int32) = nI 1) (by decide) ht hLn) dL_law_426 ?_
  refine lv_topi (fun z_13 ez_13 => ?_)
  refine lv_aload_n hx hb dL_law_427 rfl (lv_at hl 4 rfl) ?_
  refine lv_iload hx hb dL_law_428 (lv_at hl 0 rfl) ?_
  refine lv_iconst (v := 2) hx hb dL_law_430 (by decide) ?_
  refine lv_iadd hx hb dL_law_431 ?_
  refine lv_topi (fun z_14 ez_14 => ?_)
  refine va_sld hx hb hX hbl hbA hS (sc_in ez_14 hii (by decide : (2 : Int32) = nI 2) (by decide) ht hLn) dL_law_432 ?_
  refine lv_topi (fun z_15 ez_15 => ?_)
  refine lv_aload_n hx hb dL_law_433 rfl (lv_at hl 4 rfl) ?_
  refine lv_iload hx hb dL_law_434 (lv_at hl 0 rfl) ?_
  refine lv_iconst (v := 3) hx hb dL_law_436 (by decide) ?_
  refine lv_iadd hx hb dL_law_437 ?_
  refine lv_topi (fun z_16 ez_16 => ?_)
  refine va_sld hx hb hX hbl hbA hS (sc_in ez_16 hii (by decide : (3 : Int32) = nI 3) (by decide) ht hLn) dL_law_438 ?_
  refine lv_topi (fun z_17 ez_17 => ?_)
  refine lv_aload_n hx hb dL_law_439 rfl (lv_at hl 4 rfl) ?_
  refine lv_iload hx hb dL_law_440 (lv_at hl 0 rfl) ?_
  refine lv_iconst (v := 4) hx hb dL_law_442 (by decide) ?_
  refine lv_iadd hx hb dL_law_443 ?_
  refine lv_topi (fun z_18 ez_18 => ?_)
  refine va_sld hx hb hX hbl hbA hS (sc_in ez_18 hii (by decide : (4 : Int32) = nI 4) (by decide) ht hLn) dL_law_444 ?_
  refine lv_topi (fun z_19 ez_19 => ?_)
  refine lv_aload_n hx hb dL_law_445 rfl (lv_at hl 4 rfl) ?_
  refine lv_iload hx hb dL_law_446 (lv_at hl 0 rfl) ?_
  refine lv_iconst (v := 5) hx hb dL_law_448 (by decide) ?_
  refine lv_iadd hx hb dL_law_449 ?_
  refine lv_topi (fun z_20 ez_20 => ?_)
  refine va_sld hx hb hX hbl hbA hS (sc_in ez_20 hii (by decide : (5 : Int32) = nI 5) (by decide) ht hLn) dL_law_450 ?_
  refine lv_topi (fun z_21 ez_21 => ?_)
  refine NV_V ⟨hx, hb, hml, hown, hts⟩ (m_X10_putX l dC dI sa gm m0 bm i a z_13 z_15 z_17 z_19 z_21 _ ht2) (cwV 5 hts gL_law_X10_put rfl rfl rfl (by decide +kernel) ⟨Nat.le_of_ble_eq_true rfl, Nat.le_of_ble_eq_true rfl⟩) hP hD (hK.sub [12, 13, 14, 15, 16, 17, 18, 19, 20, 21, 22, 23, 24, 25, 26, 27, 28, 29, 30, 31, 32, 33, 34, 35, 36, 37, 38, 39, 40] rfl) hS hA hev rfl rfl rfl rfl hl.1 rfl (Nat.le_of_ble_eq_true rfl) dL_law_451 ⟨by show _ + 0 ≤ 601024; omega, by show _ + 0 ≤ 7293034; omega⟩ (fun r u H locs hw hP hD hS => ?_)
  obtain ⟨x0_22, x20_23, y19_24⟩ := u
  have hw : (∃ z : Int32, r = some (.int z) ∧ ((1480 < (i 20).toInt ∧ z = -1 ∧ x20_23 = (i 20)) ∨ ((i 20).toInt ≤ 1480 ∧ z = x20_23 ∧ x20_23.toInt = (i 20).toInt + 20))) ∧ (∀ nn : Nat, (i 20) = nI nn → nn ≤ 1500 → (nn ≤ 1480 → x20_23 = nI (nn + 20) ∧ y19_24 = ap5 bM (a 19) nn z_13 z_15 z_17 z_19 z_21) ∧ (¬ nn ≤ 1480 → x20_23 = (i 20) ∧ y19_24 = (a 19))) := hw
  obtain ⟨⟨z_25, rfl, hz⟩, hwP⟩ := hw
  have hab0 : z_13 = z_2 := by rw [ez_13, ez_12, ez_2, ez_1]
  have hab1 : z_15 = z_4 := by rw [ez_15, ez_14, ez_4, ez_3]
  have hab2 : z_17 = z_6 := by rw [ez_17, ez_16, ez_6, ez_5]
  have hab3 : z_19 = z_8 := by rw [ez_19, ez_18, ez_8, ez_7]
  have hab4 : z_21 = z_10 := by rw [ez_21, ez_20, ez_10, ez_9]
  rw [hab0, hab1, hab2, hab3, hab4] at hwP
  have hpb := put_both (hT0.sub [0, 1, 2, 3, 4, 5, 6] rfl) ht2 hCN hag hFr hR2 hrel1 hwP
  have hI2 := LI.put (i2 := (va_up (va_up i 0 x0_22) 20 x20_23)) (a2 := (va_up a 19 y19_24)) hI hW2 hE2 hFr hpb (put_TI ht2 hz) rfl rfl (fun j h0 h20 => (va_up_ne _ _ h20).trans (va_up_ne _ _ h0)) (fun j h19 => va_up_ne _ _ h19)
  have hP : va_P (dC, dI) vwCl ((va_pl L2 f2 ++ [(ou, .inl (co, 1, .inr (.inl fo)))]) ++ mw gm m0 bm (va_up (va_up i 0 x0_22) 20 x20_23) (va_up a 19 y19_24)) _ := hP
  have hD : va_D _ ((va_pl L2 f2 ++ [(ou, .inl (co, 1, .inr (.inl fo)))]) ++ mw gm m0 bm (va_up (va_up i 0 x0_22) 20 x20_23) (va_up a 19 y19_24)) := hD
  refine W.eq (g2 := F0 m 454 ls [.int z_25]) rfl ?_
  refine lv_pop hx hb dL_law_454 rfl ?_
  refine lv_goto (tgt := 938) hx hb dL_law_455 (by decide) ?_
  exact W.widen (by omega) (by omega) (hk L2 f2 fo (va_up (va_up i 0 x0_22) 20 x20_23) (va_up a 19 y19_24) _ _ _ (hI2.mo (by omega)) hP hD hS (lv_sub hl [0, 1, 2, 3, 4] rfl))

set_option maxHeartbeats 4000000 in
set_option maxRecDepth 100000 in
theorem lo_recipe {p : Program} {l : Launch} {e : Env} {s : State} {m : MethodId} {below : List Frame} {meth : Method} {c : Code} {b Ln : Nat} {xs : Nat → Int32} (hlt : l.stackTraces = false) (C0 : lw_At p s m meth c b Ln xs) (hLn : Ln ≤ 3072) {dC : Nat → ClassId} {dI : Nat → Nat → Nat} {sa : Nat → Nat} (hev : ev sa (fun q : Nat => s.heap.size ≤ q) s s.heap) {x0 rdr tok tp ka sta vaa wk vs cl ru pl tvr tc rc m0 ou : Nat} {va tv : Nat → Nat} {co : ClassId} {g gm bm : Nat → Nat} (hK : va_K (dC, dI) vwCl (tyG g ++ [(co, .long)] ++ tyM gm) s) {L : List Nat} {f : Nat → va_E} {fo : Nat → Int64} {i : Nat → Int32} {a : Nat → Nat → Int32} {H : Heap} {locs : List Loc} {ls : Array Slot} {cells slots t : Nat} {ii : Int32} (hI : LI g ((x0, rdr, tok, tp, ka, sta, vaa), (wk, vs, cl, ru, va), (pl, tvr, tc, tv), rc) ((10000 * t : Nat) : Int) L f i a) (hP : va_P (dC, dI) vwCl ((va_pl L f ++ [(ou, .inl (co, 1, .inr (.inl fo)))]) ++ mw gm m0 bm i a) H) (hD : va_D (fun q : Nat => s.heap.size ≤ q) ((va_pl L f ++ [(ou, .inl (co, 1, .inr (.inl fo)))]) ++ mw gm m0 bm i a)) (hS : va_S (fun q : Nat => s.heap.size ≤ q) s.heap H locs) (hl : lv_has ls 7 [(4, .int ii), (3, .ref ou), (2, .ref m0), (1, .ref x0), (0, .ref b)]) (hii : ii = nI (6 * t)) (ht : 6 * t + 6 ≤ Ln) (hc : cells + 303 ≤ 601024) (hs : slots + 2415 ≤ 7293034) (hk : ∀ (L2 : List Nat) (f2 : Nat → va_E) (fo2 : Nat → Int64) (i2 : Nat → Int32) (a2 : Nat → Nat → Int32) (H : Heap) (locs : List Loc) (ls : Array Slot), LI g ((x0, rdr, tok, tp, ka, sta, vaa), (wk, vs, cl, ru, va), (pl, tvr, tc, tv), rc) ((10000 * (t + 1) : Nat) : Int) L2 f2 i2 a2 → va_P (dC, dI) vwCl ((va_pl L2 f2 ++ [(ou, .inl (co, 1, .inr (.inl fo2)))]) ++ mw gm m0 bm i2 a2) H → va_D (fun q : Nat => s.heap.size ≤ q) ((va_pl L2 f2 ++ [(ou, .inl (co, 1, .inr (.inl fo2)))]) ++ mw gm m0 bm i2 a2) → va_S (fun q : Nat => s.heap.size ≤ q) s.heap H locs → lv_has ls 7 [(4, .int ii), (3, .ref ou), (2, .ref m0), (1, .ref x0), (0, .ref b)] → W p l e room_1 s m #[Value.ref b] below meth c H locs (cells + 303) (slots + 2415) (lw_Z below #[Value.ref b] s) (F0 m 938 ls [])) : W p l e room_1 s m #[Value.ref b] below meth c H locs cells slots (lw_Z below #[Value.ref b] s) (F0 m 458 ls []) := by
  obtain ⟨hx, hb, hr, hml, hown, hts, hX, hbl, hlocks, hgv⟩ := id C0
  have hown : s.vm.findClass RL = some m.cls := hown
  have hA : ∀ q : Nat, s.heap.size ≤ q → (fun q : Nat => s.heap.size ≤ q) q := fun _ h => h
  have hbA : ¬ (fun q : Nat => s.heap.size ≤ q) b := Nat.not_le.mpr hbl
  obtain ⟨hT0, ⟨⟨hRF, tt, hCN, hag⟩, ⟨hSR, h7, hPL⟩, hTE⟩, hGI, ht2, hBI, hkp⟩ := id hI
  have hB9 : ((10000 * t : Nat) : Int) ≤ 9000000 := by omega
  refine lv_aload_n hx hb dL_law_458 rfl (lv_at hl 3 rfl) ?_
  refine lv_aload_n hx hb dL_law_459 rfl (lv_at hl 4 rfl) ?_
  refine lv_iload hx hb dL_law_460 (lv_at hl 0 rfl) ?_
  refine lv_iconst (v := 1) hx hb dL_law_462 (by decide) ?_
  refine lv_iadd hx hb dL_law_463 ?_
  refine lv_topi (fun z_1 ez_1 => ?_)
  refine va_sld hx hb hX hbl hbA hS (sc_in ez_1 hii (by decide : (1 : Int32) = nI 1) (by decide) ht hLn) dL_law_464 ?_
  refine lv_topi (fun z_2 ez_2 => ?_)
  refine lv_aload_n hx hb dL_law_465 rfl (lv_at hl 4 rfl) ?_
  refine lv_iload hx hb dL_law_466 (lv_at hl 0 rfl) ?_
  refine lv_iconst (v := 2) hx hb dL_law_468 (by decide) ?_
  refine lv_iadd hx hb dL_law_469 ?_
  refine lv_topi (fun z_3 ez_3 => ?_)
  refine va_sld hx hb hX hbl hbA hS (sc_in ez_3 hii (by decide : (2 : Int32) = nI 2) (by decide) ht hLn) dL_law_470 ?_
  refine lv_topi (fun z_4 ez_4 => ?_)
  refine lv_aload_n hx hb dL_law_471 rfl (lv_at hl 1 rfl) ?_
  refine NW_S (hh := [(0, 10, 13, 18)]) ⟨hx, hb, hml, hown, hts⟩ (wS_recipe l dC dI sa g _ _ x0 ou co _ z_2 z_4 _ (hT0.sub [0] rfl) (fun sz => (t_X9_recipeT l dC dI sa hlt g _ _ tt x0 z_2 z_4 tp rdr tok ka sta vaa rc (i 20) (i 37) sz (hT0.sub [0, 3, 1, 2, 4, 5, 6, 14] rfl) hCN.1 hSR.2.2.2.2.1.2.2 hRF.1.1 hRF.1.2.1 hRF.1.2.2.1 hRF.1.2.2.2.1 hRF.1.2.2.2.2.1 hRF.1.2.2.2.2.2.1 hRF.1.2.2.2.2.2.2 h7 hCN.2.2.2 ht2.2 hRF.2)) (fun _ _ _ h9 => h9.1) (fun _ _ _ h9 => h9.1.1)) (vx_cwSW 4 hts gL_law_L_recipe rfl rfl rfl (by decide +kernel) ⟨Nat.le_of_ble_eq_true rfl, Nat.le_of_ble_eq_true rfl⟩) hP hD (hK.sub [0, 1, 2, 3, 4, 5, 6, 7, 8, 9, 10, 11] rfl) hS hA hev rfl hl.1 rfl (Nat.le_of_ble_eq_true rfl) dL_law_472 ⟨by show _ + 303 ≤ 601024; omega, by show _ + 2415 ≤ 7293034; omega⟩ (fun r u H locs hw hP hD hS => ?_)
  obtain ⟨⟨L2, f2⟩, fo2⟩ := u
  obtain ⟨hW2, hE2, hw9⟩ := hw
  have hE2 : Ext L f L2 f2 := hE2
  obtain ⟨z_5, rfl⟩ := wr_z hw9
  have hP : va_P (dC, dI) vwCl ((va_pl L2 f2 ++ [(ou, .inl (co, 1, .inr (.inl fo2)))]) ++ mw gm m0 bm i a) _ := hP
  have hD : va_D _ ((va_pl L2 f2 ++ [(ou, .inl (co, 1, .inr (.inl fo2)))]) ++ mw gm m0 bm i a) := hD
  refine W.eq (g2 := F0 m 475 ls [.int z_5]) rfl ?_
  refine lv_istore (lv' := [(5, .int z_5), (4, .int ii), (3, .ref ou), (2, .ref m0), (1, .ref x0), (0, .ref b)]) hx hb dL_law_475 hl (by decide) rfl (fun ls hl => ?_)
  refine lv_aload_n hx hb dL_law_477 rfl (lv_at hl 3 rfl) ?_
  refine lv_aload_n hx hb dL_law_478 rfl (lv_at hl 5 rfl) ?_
  refine lv_iload hx hb dL_law_479 (lv_at hl 1 rfl) ?_
  refine lv_iconst (v := 1) hx hb dL_law_481 (by decide) ?_
  refine lv_iadd hx hb dL_law_482 ?_
  refine lv_topi (fun z_6 ez_6 => ?_)
  refine va_sld hx hb hX hbl hbA hS (sc_in ez_6 hii (by decide : (1 : Int32) = nI 1) (by decide) ht hLn) dL_law_483 ?_
  refine lv_topi (fun z_7 ez_7 => ?_)
  refine lv_aload_n hx hb dL_law_484 rfl (lv_at hl 5 rfl) ?_
  refine lv_iload hx hb dL_law_485 (lv_at hl 1 rfl) ?_
  refine lv_iconst (v := 2) hx hb dL_law_487 (by decide) ?_
  refine lv_iadd hx hb dL_law_488 ?_
  refine lv_topi (fun z_8 ez_8 => ?_)
  refine va_sld hx hb hX hbl hbA hS (sc_in ez_8 hii (by decide : (2 : Int32) = nI 2) (by decide) ht hLn) dL_law_489 ?_
  refine lv_topi (fun z_9 ez_9 => ?_)
  refine NV_V ⟨hx, hb, hml, hown, hts⟩ (m_X10_recipeT l dC dI sa gm m0 bm i a z_7 z_9 _ ht2 hBI) (cwV 2 hts gL_law_X10_recipe rfl rfl rfl (by decide +kernel) ⟨Nat.le_of_ble_eq_true rfl, Nat.le_of_ble_eq_true rfl⟩) hP hD (hK.sub [12, 13, 14, 15, 16, 17, 18, 19, 20, 21, 22, 23, 24, 25, 26, 27, 28, 29, 30, 31, 32, 33, 34, 35, 36, 37, 38, 39, 40] rfl) hS hA hev rfl rfl rfl rfl hl.1 rfl (Nat.le_of_ble_eq_true rfl) dL_law_490 ⟨by show _ + 0 ≤ 601024; omega, by show _ + 0 ≤ 7293034; omega⟩ (fun r u H locs hw hP hD hS => ?_)
  obtain ⟨x0_10, x20_11, x21_12, x22_13, x23_14, x24_15, x25_16, x36_17, x37_18, x38_19, y26_20, y27_21, y28_22, y29_23, y30_24, y31_25, y32_26, y33_27, y34_28, y35_29⟩ := u
  have hw : (∃ z : Int32, r = some (.int z)) ∧ (((0 ≤ x20_11.toInt ∧ x20_11.toInt ≤ 1500) ∧ BI y26_20 y27_21 y31_25 y32_26 y33_27 y34_28 y35_29) ∧ ((¬ Cq z_7 z_9 (i 20) ∧ x0_10 = 1 ∧ x20_11 = (i 20) ∧ x23_14 = (i 23) ∧ x24_15 = (i 24) ∧ y34_28 = (a 34) ∧ y35_29 = (a 35) ∧ x37_18 = (i 37) ∧ y26_20 = (a 26) ∧ y27_21 = (a 27) ∧ y28_22 = (a 28) ∧ y29_23 = (a 29) ∧ y30_24 = (a 30) ∧ y31_25 = (a 31) ∧ y32_26 = (a 32) ∧ y33_27 = (a 33)) ∨ (Cq z_7 z_9 (i 20) ∧ x20_11 = 0 ∧ x0_10 = 0 ∧ ∃ (ln : Nat) (r1 : SG), z_9 = nI ln ∧ ln ≤ 1500 ∧ Ev (Kp (a 19) ln) (Vp (a 19) ln) (nq (a 19) ln) 0 0 (sk (a 19) ln 0, 0, 0, -1) r1 ∧ x23_14 = (gpa (Kp (a 19) ln) (nq (a 19) ln) 0 r1).2.2.1 ∧ x24_15 = (gpa (Kp (a 19) ln) (nq (a 19) ln) 0 r1).2.2.2 ∧ r = some (.int x23_14) ∧ ((¬ x23_14 = 0 ∧ y34_28 = (a 34) ∧ x37_18 = (i 37) ∧ BK8 (a 26) (a 27) (a 28) (a 29) (a 30) (a 31) (a 32) (a 33) y26_20 y27_21 y28_22 y29_23 y30_24 y31_25 y32_26 y33_27) ∨ (x23_14 = 0 ∧ ∃ TN : TT, EvT (Kp (a 19) ln) (Vp (a 19) ln) (nq (a 19) ln) 0 0 0 ((sk (a 19) ln 0, 0, 0, -1), (fun _ _ => 0)) (r1, TN) ∧ x37_18 = nI r1.2.1 ∧ y34_28 = upd (a 34) z_7.toNatClampNeg (fiN z_7.toNatClampNeg r1.2.1) ∧ TRr (Kp (a 19) ln) (Vp (a 19) ln) (nq (a 19) ln) TN (300 * z_7.toNatClampNeg) r1.2.1 y26_20 y27_21 y28_22 y29_23 y30_24 y31_25 y32_26 y33_27 ∧ BKO z_7.toNatClampNeg (a 26) (a 27) (a 28) (a 29) (a 30) (a 31) (a 32) (a 33) y26_20 y27_21 y28_22 y29_23 y30_24 y31_25 y32_26 y33_27))))) := hw
  obtain ⟨⟨z_30, rfl⟩, hwP⟩ := hw
  have hab0 : z_7 = z_2 := by rw [ez_7, ez_6, ez_2, ez_1]
  have hab1 : z_9 = z_4 := by rw [ez_9, ez_8, ez_4, ez_3]
  rw [hab0, hab1] at hwP
  obtain ⟨hth, hout, hI2⟩ := LI.rcp9 (i2 := (va_up (va_up (va_up (va_up (va_up (va_up (va_up (va_up (va_up (va_up i 0 x0_10) 20 x20_11) 21 x21_12) 22 x22_13) 23 x23_14) 24 x24_15) 25 x25_16) 36 x36_17) 37 x37_18) 38 x38_19)) (a2 := (va_up (va_up (va_up (va_up (va_up (va_up (va_up (va_up (va_up (va_up a 26 y26_20) 27 y27_21) 28 y28_22) 29 y29_23) 30 y30_24) 31 y31_25) 32 y32_26) 33 y33_27) 34 y34_28) 35 y35_29)) hI hW2 hE2 hCN hag hw9 hwP (by intro j hj; simp only [List.mem_cons, List.not_mem_nil, or_false] at hj; rcases hj with rfl | rfl | rfl | rfl | rfl | rfl | rfl | rfl | rfl | rfl | rfl | rfl <;> rfl) (fun j hj => ((va_up_ne _ _ (by omega)).trans ((va_up_ne _ _ (by omega)).trans ((va_up_ne _ _ (by omega)).trans ((va_up_ne _ _ (by omega)).trans ((va_up_ne _ _ (by omega)).trans ((va_up_ne _ _ (by omega)).trans ((va_up_ne _ _ (by omega)).trans ((va_up_ne _ _ (by omega)).trans ((va_up_ne _ _ (by omega)).trans (va_up_ne _ _ (by omega))))))))))))
  have hP : va_P (dC, dI) vwCl ((va_pl L2 f2 ++ [(ou, .inl (co, 1, .inr (.inl fo2)))]) ++ mw gm m0 bm (va_up (va_up (va_up (va_up (va_up (va_up (va_up (va_up (va_up (va_up i 0 x0_10) 20 x20_11) 21 x21_12) 22 x22_13) 23 x23_14) 24 x24_15) 25 x25_16) 36 x36_17) 37 x37_18) 38 x38_19) (va_up (va_up (va_up (va_up (va_up (va_up (va_up (va_up (va_up (va_up a 26 y26_20) 27 y27_21) 28 y28_22) 29 y29_23) 30 y30_24) 31 y31_25) 32 y32_26) 33 y33_27) 34 y34_28) 35 y35_29)) _ := hP
  have hD : va_D _ ((va_pl L2 f2 ++ [(ou, .inl (co, 1, .inr (.inl fo2)))]) ++ mw gm m0 bm (va_up (va_up (va_up (va_up (va_up (va_up (va_up (va_up (va_up (va_up i 0 x0_10) 20 x20_11) 21 x21_12) 22 x22_13) 23 x23_14) 24 x24_15) 25 x25_16) 36 x36_17) 37 x37_18) 38 x38_19) (va_up (va_up (va_up (va_up (va_up (va_up (va_up (va_up (va_up (va_up a 26 y26_20) 27 y27_21) 28 y28_22) 29 y29_23) 30 y30_24) 31 y31_25) 32 y32_26) 33 y33_27) 34 y34_28) 35 y35_29)) := hD
  refine W.eq (g2 := F0 m 493 ls [.int z_30]) rfl ?_
  refine lv_istore (lv' := [(6, .int z_30), (5, .int z_5), (4, .int ii), (3, .ref ou), (2, .ref m0), (1, .ref x0), (0, .ref b)]) hx hb dL_law_493 hl (by decide) rfl (fun ls hl => ?_)
  refine lv_goto (tgt := 938) hx hb dL_law_495 (by decide) ?_
  exact W.widen (by omega) (by omega) (hk L2 f2 fo2 (va_up (va_up (va_up (va_up (va_up (va_up (va_up (va_up (va_up (va_up i 0 x0_10) 20 x20_11) 21 x21_12) 22 x22_13) 23 x23_14) 24 x24_15) 25 x25_16) 36 x36_17) 37 x37_18) 38 x38_19) (va_up (va_up (va_up (va_up (va_up (va_up (va_up (va_up (va_up (va_up a 26 y26_20) 27 y27_21) 28 y28_22) 29 y29_23) 30 y30_24) 31 y31_25) 32 y32_26) 33 y33_27) 34 y34_28) 35 y35_29) _ _ _ (hI2.mo (by omega)) hP hD hS (lv_sub hl [2, 3, 4, 5, 6] rfl))

set_option maxHeartbeats 4000000 in
set_option maxRecDepth 100000 in
theorem lo_fault {p : Program} {l : Launch} {e : Env} {s : State} {m : MethodId} {below : List Frame} {meth : Method} {c : Code} {b Ln : Nat} {xs : Nat → Int32} (hlt : l.stackTraces = false) (C0 : lw_At p s m meth c b Ln xs) (hLn : Ln ≤ 3072) {dC : Nat → ClassId} {dI : Nat → Nat → Nat} {sa : Nat → Nat} (hev : ev sa (fun q : Nat => s.heap.size ≤ q) s s.heap) {x0 rdr tok tp ka sta vaa wk vs cl ru pl tvr tc rc m0 ou : Nat} {va tv : Nat → Nat} {co : ClassId} {g gm bm : Nat → Nat} (hK : va_K (dC, dI) vwCl (tyG g ++ [(co, .long)] ++ tyM gm) s) {L : List Nat} {f : Nat → va_E} {fo : Nat → Int64} {i : Nat → Int32} {a : Nat → Nat → Int32} {H : Heap} {locs : List Loc} {ls : Array Slot} {cells slots t : Nat} {ii : Int32} (hI : LI g ((x0, rdr, tok, tp, ka, sta, vaa), (wk, vs, cl, ru, va), (pl, tvr, tc, tv), rc) ((10000 * t : Nat) : Int) L f i a) (hP : va_P (dC, dI) vwCl ((va_pl L f ++ [(ou, .inl (co, 1, .inr (.inl fo)))]) ++ mw gm m0 bm i a) H) (hD : va_D (fun q : Nat => s.heap.size ≤ q) ((va_pl L f ++ [(ou, .inl (co, 1, .inr (.inl fo)))]) ++ mw gm m0 bm i a)) (hS : va_S (fun q : Nat => s.heap.size ≤ q) s.heap H locs) (hl : lv_has ls 7 [(4, .int ii), (3, .ref ou), (2, .ref m0), (1, .ref x0), (0, .ref b)]) (hii : ii = nI (6 * t)) (ht : 6 * t + 6 ≤ Ln) (hc : cells + 303 ≤ 601024) (hs : slots + 2415 ≤ 7293034) (hk : ∀ (L2 : List Nat) (f2 : Nat → va_E) (fo2 : Nat → Int64) (i2 : Nat → Int32) (a2 : Nat → Nat → Int32) (H : Heap) (locs : List Loc) (ls : Array Slot), LI g ((x0, rdr, tok, tp, ka, sta, vaa), (wk, vs, cl, ru, va), (pl, tvr, tc, tv), rc) ((10000 * (t + 1) : Nat) : Int) L2 f2 i2 a2 → va_P (dC, dI) vwCl ((va_pl L2 f2 ++ [(ou, .inl (co, 1, .inr (.inl fo2)))]) ++ mw gm m0 bm i2 a2) H → va_D (fun q : Nat => s.heap.size ≤ q) ((va_pl L2 f2 ++ [(ou, .inl (co, 1, .inr (.inl fo2)))]) ++ mw gm m0 bm i2 a2) → va_S (fun q : Nat => s.heap.size ≤ q) s.heap H locs → lv_has ls 7 [(4, .int ii), (3, .ref ou), (2, .ref m0), (1, .ref x0), (0, .ref b)] → W p l e room_1 s m #[Value.ref b] below meth c H locs (cells + 303) (slots + 2415) (lw_Z below #[Value.ref b] s) (F0 m 938 ls [])) : W p l e room_1 s m #[Value.ref b] below meth c H locs cells slots (lw_Z below #[Value.ref b] s) (F0 m 498 ls []) := by
  obtain ⟨hx, hb, hr, hml, hown, hts, hX, hbl, hlocks, hgv⟩ := id C0
  have hown : s.vm.findClass RL = some m.cls := hown
  have hA : ∀ q : Nat, s.heap.size ≤ q → (fun q : Nat => s.heap.size ≤ q) q := fun _ h => h
  have hbA : ¬ (fun q : Nat => s.heap.size ≤ q) b := Nat.not_le.mpr hbl
  obtain ⟨hT0, ⟨⟨hRF, tt, hCN, hag⟩, ⟨hSR, h7, hPL⟩, hTE⟩, hGI, ht2, hBI, hkp⟩ := id hI
  have hB9 : ((10000 * t : Nat) : Int) ≤ 9000000 := by omega
  refine lv_aload_n hx hb dL_law_498 rfl (lv_at hl 3 rfl) ?_
  refine lv_aload_n hx hb dL_law_499 rfl (lv_at hl 4 rfl) ?_
  refine lv_iload hx hb dL_law_500 (lv_at hl 0 rfl) ?_
  refine lv_iconst (v := 1) hx hb dL_law_502 (by decide) ?_
  refine lv_iadd hx hb dL_law_503 ?_
  refine lv_topi (fun z_1 ez_1 => ?_)
  refine va_sld hx hb hX hbl hbA hS (sc_in ez_1 hii (by decide : (1 : Int32) = nI 1) (by decide) ht hLn) dL_law_504 ?_
  refine lv_topi (fun z_2 ez_2 => ?_)
  refine lv_aload_n hx hb dL_law_505 rfl (lv_at hl 1 rfl) ?_
  refine NW_S (hh := [(0, 9, 12, 13)]) ⟨hx, hb, hml, hown, hts⟩ (wS_fault l dC dI sa g _ _ x0 ou co _ z_2 _ (hT0.sub [0] rfl) (fun sz => (t_X9_faultX l dC dI sa hlt g _ _ x0 z_2 rdr (i 23) (i 24) sz (hT0.sub [0, 1] rfl) hCN.2.1 hCN.2.2.1 hRF.1.2.1)) (fun _ _ _ h9 => h9.1) (fun _ _ _ h9 => h9.1.1)) (vx_cwSW 3 hts gL_law_L_fault rfl rfl rfl (by decide +kernel) ⟨Nat.le_of_ble_eq_true rfl, Nat.le_of_ble_eq_true rfl⟩) hP hD (hK.sub [0, 1, 2, 3, 4, 5, 6, 7, 8, 9, 10, 11] rfl) hS hA hev rfl hl.1 rfl (Nat.le_of_ble_eq_true rfl) dL_law_506 ⟨by show _ + 1 ≤ 601024; omega, by show _ + 6 ≤ 7293034; omega⟩ (fun r u H locs hw hP hD hS => ?_)
  obtain ⟨⟨L2, f2⟩, fo2⟩ := u
  obtain ⟨hW2, hE2, hw⟩ := hw
  have hE2 : Ext L f L2 f2 := hE2
  obtain ⟨z_3, rfl⟩ := wr_z hw
  obtain ⟨hS2, hF2⟩ := st_f1 hSR hE2 hw
  have hI1 := hI.still hW2 hE2 hF2 (by decide) hS2
  have hP : va_P (dC, dI) vwCl ((va_pl L2 f2 ++ [(ou, .inl (co, 1, .inr (.inl fo2)))]) ++ mw gm m0 bm i a) _ := hP
  have hD : va_D _ ((va_pl L2 f2 ++ [(ou, .inl (co, 1, .inr (.inl fo2)))]) ++ mw gm m0 bm i a) := hD
  refine W.eq (g2 := F0 m 509 ls [.int z_3]) rfl ?_
  refine lv_istore (lv' := [(5, .int z_3), (4, .int ii), (3, .ref ou), (2, .ref m0), (1, .ref x0), (0, .ref b)]) hx hb dL_law_509 hl (by decide) rfl (fun ls hl => ?_)
  refine lv_aload_n hx hb dL_law_511 rfl (lv_at hl 3 rfl) ?_
  refine lv_aload_n hx hb dL_law_512 rfl (lv_at hl 5 rfl) ?_
  refine lv_iload hx hb dL_law_513 (lv_at hl 1 rfl) ?_
  refine lv_iconst (v := 1) hx hb dL_law_515 (by decide) ?_
  refine lv_iadd hx hb dL_law_516 ?_
  refine lv_topi (fun z_4 ez_4 => ?_)
  refine va_sld hx hb hX hbl hbA hS (sc_in ez_4 hii (by decide : (1 : Int32) = nI 1) (by decide) ht hLn) dL_law_517 ?_
  refine lv_topi (fun z_5 ez_5 => ?_)
  refine NV_V ⟨hx, hb, hml, hown, hts⟩ (m_X10_faultX l dC dI sa gm m0 bm i a z_5 _ ) (cwV 1 hts gL_law_X10_fault rfl rfl rfl (by decide +kernel) ⟨Nat.le_of_ble_eq_true rfl, Nat.le_of_ble_eq_true rfl⟩) hP hD (hK.sub [12, 13, 14, 15, 16, 17, 18, 19, 20, 21, 22, 23, 24, 25, 26, 27, 28, 29, 30, 31, 32, 33, 34, 35, 36, 37, 38, 39, 40] rfl) hS hA hev rfl rfl rfl rfl hl.1 rfl (Nat.le_of_ble_eq_true rfl) dL_law_518 ⟨by show _ + 0 ≤ 601024; omega, by show _ + 0 ≤ 7293034; omega⟩ (fun r u H locs hw hP hD hS => ?_)
  obtain ⟨x0_6, rfl⟩ : ∃ z, z = u := ⟨_, rfl⟩
  have hw : (∃ z : Int32, r = some (.int z)) ∧ ((z_5 = 0 ∧ x0_6 = 0 ∧ r = some (.int (i 23))) ∨ (z_5 = 1 ∧ x0_6 = 0 ∧ r = some (.int (i 24))) ∨ (¬ z_5 = 0 ∧ ¬ z_5 = 1 ∧ x0_6 = 1)) := hw
  obtain ⟨⟨z_7, rfl⟩, hwP⟩ := hw
  have hab0 : z_5 = z_2 := by rw [ez_5, ez_4, ez_2, ez_1]
  have hI2 := LI.cg (i2 := (va_up i 0 x0_6)) (a2 := a) hI1 (by intro j hj; simp only [List.mem_cons, List.not_mem_nil, or_false] at hj; rcases hj with rfl | rfl | rfl | rfl | rfl | rfl | rfl | rfl | rfl | rfl | rfl | rfl | rfl | rfl | rfl <;> rfl) hkp (fun j hj => rfl)
  have hP : va_P (dC, dI) vwCl ((va_pl L2 f2 ++ [(ou, .inl (co, 1, .inr (.inl fo2)))]) ++ mw gm m0 bm (va_up i 0 x0_6) a) _ := hP
  have hD : va_D _ ((va_pl L2 f2 ++ [(ou, .inl (co, 1, .inr (.inl fo2)))]) ++ mw gm m0 bm (va_up i 0 x0_6) a) := hD
  refine W.eq (g2 := F0 m 521 ls [.int z_7]) rfl ?_
  refine lv_istore (lv' := [(6, .int z_7), (5, .int z_3), (4, .int ii), (3, .ref ou), (2, .ref m0), (1, .ref x0), (0, .ref b)]) hx hb dL_law_521 hl (by decide) rfl (fun ls hl => ?_)
  refine lv_goto (tgt := 938) hx hb dL_law_523 (by decide) ?_
  exact W.widen (by omega) (by omega) (hk L2 f2 fo2 (va_up i 0 x0_6) a _ _ _ (hI2.mo (by omega)) hP hD hS (lv_sub hl [2, 3, 4, 5, 6] rfl))

set_option maxHeartbeats 4000000 in
set_option maxRecDepth 100000 in
theorem lo_run {p : Program} {l : Launch} {e : Env} {s : State} {m : MethodId} {below : List Frame} {meth : Method} {c : Code} {b Ln : Nat} {xs : Nat → Int32} (hlt : l.stackTraces = false) (C0 : lw_At p s m meth c b Ln xs) (hLn : Ln ≤ 3072) {dC : Nat → ClassId} {dI : Nat → Nat → Nat} {sa : Nat → Nat} (hev : ev sa (fun q : Nat => s.heap.size ≤ q) s s.heap) {x0 rdr tok tp ka sta vaa wk vs cl ru pl tvr tc rc m0 ou : Nat} {va tv : Nat → Nat} {co : ClassId} {g gm bm : Nat → Nat} (hK : va_K (dC, dI) vwCl (tyG g ++ [(co, .long)] ++ tyM gm) s) {L : List Nat} {f : Nat → va_E} {fo : Nat → Int64} {i : Nat → Int32} {a : Nat → Nat → Int32} {H : Heap} {locs : List Loc} {ls : Array Slot} {cells slots t : Nat} {ii : Int32} (hI : LI g ((x0, rdr, tok, tp, ka, sta, vaa), (wk, vs, cl, ru, va), (pl, tvr, tc, tv), rc) ((10000 * t : Nat) : Int) L f i a) (hP : va_P (dC, dI) vwCl ((va_pl L f ++ [(ou, .inl (co, 1, .inr (.inl fo)))]) ++ mw gm m0 bm i a) H) (hD : va_D (fun q : Nat => s.heap.size ≤ q) ((va_pl L f ++ [(ou, .inl (co, 1, .inr (.inl fo)))]) ++ mw gm m0 bm i a)) (hS : va_S (fun q : Nat => s.heap.size ≤ q) s.heap H locs) (hl : lv_has ls 7 [(4, .int ii), (3, .ref ou), (2, .ref m0), (1, .ref x0), (0, .ref b)]) (hii : ii = nI (6 * t)) (ht : 6 * t + 6 ≤ Ln) (hc : cells + 303 ≤ 601024) (hs : slots + 2415 ≤ 7293034) (hk : ∀ (L2 : List Nat) (f2 : Nat → va_E) (fo2 : Nat → Int64) (i2 : Nat → Int32) (a2 : Nat → Nat → Int32) (H : Heap) (locs : List Loc) (ls : Array Slot), LI g ((x0, rdr, tok, tp, ka, sta, vaa), (wk, vs, cl, ru, va), (pl, tvr, tc, tv), rc) ((10000 * (t + 1) : Nat) : Int) L2 f2 i2 a2 → va_P (dC, dI) vwCl ((va_pl L2 f2 ++ [(ou, .inl (co, 1, .inr (.inl fo2)))]) ++ mw gm m0 bm i2 a2) H → va_D (fun q : Nat => s.heap.size ≤ q) ((va_pl L2 f2 ++ [(ou, .inl (co, 1, .inr (.inl fo2)))]) ++ mw gm m0 bm i2 a2) → va_S (fun q : Nat => s.heap.size ≤ q) s.heap H locs → lv_has ls 7 [(4, .int ii), (3, .ref ou), (2, .ref m0), (1, .ref x0), (0, .ref b)] → W p l e room_1 s m #[Value.ref b] below meth c H locs (cells + 303) (slots + 2415) (lw_Z below #[Value.ref b] s) (F0 m 938 ls [])) : W p l e room_1 s m #[Value.ref b] below meth c H locs cells slots (lw_Z below #[Value.ref b] s) (F0 m 526 ls []) := by
  obtain ⟨hx, hb, hr, hml, hown, hts, hX, hbl, hlocks, hgv⟩ := id C0
  have hown : s.vm.findClass RL = some m.cls := hown
  have hA : ∀ q : Nat, s.heap.size ≤ q → (fun q : Nat => s.heap.size ≤ q) q := fun _ h => h
  have hbA : ¬ (fun q : Nat => s.heap.size ≤ q) b := Nat.not_le.mpr hbl
  obtain ⟨hT0, ⟨⟨hRF, tt, hCN, hag⟩, ⟨hSR, h7, hPL⟩, hTE⟩, hGI, ht2, hBI, hkp⟩ := id hI
  have hB9 : ((10000 * t : Nat) : Int) ≤ 9000000 := by omega
  refine lv_aload_n hx hb dL_law_526 rfl (lv_at hl 3 rfl) ?_
  refine lv_aload_n hx hb dL_law_527 rfl (lv_at hl 4 rfl) ?_
  refine lv_iload hx hb dL_law_528 (lv_at hl 0 rfl) ?_
  refine lv_iconst (v := 1) hx hb dL_law_530 (by decide) ?_
  refine lv_iadd hx hb dL_law_531 ?_
  refine lv_topi (fun z_1 ez_1 => ?_)
  refine va_sld hx hb hX hbl hbA hS (sc_in ez_1 hii (by decide : (1 : Int32) = nI 1) (by decide) ht hLn) dL_law_532 ?_
  refine lv_topi (fun z_2 ez_2 => ?_)
  refine lv_aload_n hx hb dL_law_533 rfl (lv_at hl 4 rfl) ?_
  refine lv_iload hx hb dL_law_534 (lv_at hl 0 rfl) ?_
  refine lv_iconst (v := 2) hx hb dL_law_536 (by decide) ?_
  refine lv_iadd hx hb dL_law_537 ?_
  refine lv_topi (fun z_3 ez_3 => ?_)
  refine va_sld hx hb hX hbl hbA hS (sc_in ez_3 hii (by decide : (2 : Int32) = nI 2) (by decide) ht hLn) dL_law_538 ?_
  refine lv_topi (fun z_4 ez_4 => ?_)
  refine lv_aload_n hx hb dL_law_539 rfl (lv_at hl 4 rfl) ?_
  refine lv_iload hx hb dL_law_540 (lv_at hl 0 rfl) ?_
  refine lv_iconst (v := 3) hx hb dL_law_542 (by decide) ?_
  refine lv_iadd hx hb dL_law_543 ?_
  refine lv_topi (fun z_5 ez_5 => ?_)
  refine va_sld hx hb hX hbl hbA hS (sc_in ez_5 hii (by decide : (3 : Int32) = nI 3) (by decide) ht hLn) dL_law_544 ?_
  refine lv_topi (fun z_6 ez_6 => ?_)
  refine lv_aload_n hx hb dL_law_545 rfl (lv_at hl 1 rfl) ?_
  have hSR0 : SR g L f (x0, wk, vs, cl, ru, va) (va_up i 0 0, a) := hSR.th (fun j hj => va_up_ne _ _ hj) rfl
  refine NW_S (hh := [(0, 12, 15, 13)]) ⟨hx, hb, hml, hown, hts⟩ (wS_run l dC dI sa g _ _ x0 ou co _ z_2 z_4 z_6 _ (hT0.sub [0] rfl) (fun sz => (t_X9_runS l dC dI sa hlt g _ _ va (va_up i 0 0, a) x0 z_2 z_4 z_6 wk vs cl ru rc sz (hT0.sub [0, 7, 8, 9, 10, 14] rfl) hSR.1.2.1 hSR.1.2.2.2.2.1 hSR.1.2.2.1 hSR.1.2.2.2.1 h7 hSR.1.2.2.2.2.2 hSR0 ⟨hGI.1.1, hGI.1.2.1, hGI.1.2.2.1, Int.le_trans hGI.1.2.2.2 hB9⟩ (fun r9 h9 => (hTE r9 h9).tr))) (fun _ _ _ h9 => h9.1) (fun _ _ _ h9 => h9.1.1)) (vx_cwSW 5 hts gL_law_L_run rfl rfl rfl (by decide +kernel) ⟨Nat.le_of_ble_eq_true rfl, Nat.le_of_ble_eq_true rfl⟩) hP hD (hK.sub [0, 1, 2, 3, 4, 5, 6, 7, 8, 9, 10, 11] rfl) hS hA hev rfl hl.1 rfl (Nat.le_of_ble_eq_true rfl) dL_law_546 ⟨by show _ + 1 ≤ 601024; omega, by show _ + 6 ≤ 7293034; omega⟩ (fun r u H locs hw hP hD hS => ?_)
  obtain ⟨⟨L2, f2⟩, fo2⟩ := u
  obtain ⟨hW2, hE2, hw⟩ := hw
  have hE2 : Ext L f L2 f2 := hE2
  obtain ⟨z_7, rfl⟩ := wr_z hw
  have hco : ∃ o : OP, rnR z_2 z_4 z_6 (va_up i 0 0, a) o ∧ CO g L f L2 f2 (x0, wk, vs, cl, ru, va) o (some (.int z_7)) (fo2 0) := coR hSR0 hE2 (by decide) hw
  have hP : va_P (dC, dI) vwCl ((va_pl L2 f2 ++ [(ou, .inl (co, 1, .inr (.inl fo2)))]) ++ mw gm m0 bm i a) _ := hP
  have hD : va_D _ ((va_pl L2 f2 ++ [(ou, .inl (co, 1, .inr (.inl fo2)))]) ++ mw gm m0 bm i a) := hD
  refine W.eq (g2 := F0 m 549 ls [.int z_7]) rfl ?_
  refine lv_istore (lv' := [(5, .int z_7), (4, .int ii), (3, .ref ou), (2, .ref m0), (1, .ref x0), (0, .ref b)]) hx hb dL_law_549 hl (by decide) rfl (fun ls hl => ?_)
  refine lv_aload_n hx hb dL_law_551 rfl (lv_at hl 3 rfl) ?_
  refine lv_aload_n hx hb dL_law_552 rfl (lv_at hl 5 rfl) ?_
  refine lv_iload hx hb dL_law_553 (lv_at hl 1 rfl) ?_
  refine lv_iconst (v := 1) hx hb dL_law_555 (by decide) ?_
  refine lv_iadd hx hb dL_law_556 ?_
  refine lv_topi (fun z_8 ez_8 => ?_)
  refine va_sld hx hb hX hbl hbA hS (sc_in ez_8 hii (by decide : (1 : Int32) = nI 1) (by decide) ht hLn) dL_law_557 ?_
  refine lv_topi (fun z_9 ez_9 => ?_)
  refine lv_aload_n hx hb dL_law_558 rfl (lv_at hl 5 rfl) ?_
  refine lv_iload hx hb dL_law_559 (lv_at hl 1 rfl) ?_
  refine lv_iconst (v := 2) hx hb dL_law_561 (by decide) ?_
  refine lv_iadd hx hb dL_law_562 ?_
  refine lv_topi (fun z_10 ez_10 => ?_)
  refine va_sld hx hb hX hbl hbA hS (sc_in ez_10 hii (by decide : (2 : Int32) = nI 2) (by decide) ht hLn) dL_law_563 ?_
  refine lv_topi (fun z_11 ez_11 => ?_)
  refine lv_aload_n hx hb dL_law_564 rfl (lv_at hl 5 rfl) ?_
  refine lv_iload hx hb dL_law_565 (lv_at hl 1 rfl) ?_
  refine lv_iconst (v := 3) hx hb dL_law_567 (by decide) ?_
  refine lv_iadd hx hb dL_law_568 ?_
  refine lv_topi (fun z_12 ez_12 => ?_)
  refine va_sld hx hb hX hbl hbA hS (sc_in ez_12 hii (by decide : (3 : Int32) = nI 3) (by decide) ht hLn) dL_law_569 ?_
  refine lv_topi (fun z_13 ez_13 => ?_)
  obtain ⟨V, dp, hND, hFI, hk0, hNV, hlV⟩ := run_nd (s := (i, a)) (rr := z_9) hTE hBI
  refine NV_V ⟨hx, hb, hml, hown, hts⟩ (m_X10_runE l dC dI sa gm m0 bm V dp i a z_9 z_11 z_13 _ hGI.1.2.1 hND hFI hGI.2.2 hk0) (cwV 3 hts gL_law_X10_run rfl rfl rfl (by decide +kernel) ⟨Nat.le_of_ble_eq_true rfl, Nat.le_of_ble_eq_true rfl⟩) hP hD (hK.sub [12, 13, 14, 15, 16, 17, 18, 19, 20, 21, 22, 23, 24, 25, 26, 27, 28, 29, 30, 31, 32, 33, 34, 35, 36, 37, 38, 39, 40] rfl) hS hA hev rfl rfl rfl rfl hl.1 rfl (Nat.le_of_ble_eq_true rfl) dL_law_570 ⟨by show _ + 0 ≤ 601024; omega, by show _ + 0 ≤ 7293034; omega⟩ (fun r u H locs hw hP hD hS => ?_)
  obtain ⟨x0_14, x1_15, x2_16, x39_17, x40_18, x41_19, x42_20, x43_21, x44_22, x45_23, y4_24, y5_25, y6_26, y7_27, y8_28, y9_29, y10_30, y11_31, y14_32, y15_33, y17_34, y18_35⟩ := u
  have hw : (∃ z : Int32, r = some (.int z)) ∧ (∃ o9 : OP, rnR z_9 z_11 z_13 (va_up i 0 0, a) o9 ∧ x0_14 = o9.1 ∧ (o9.1 = 0 → r = some (.int o9.2.1)) ∧ H01 y10_30 ∧ x39_17 = o9.2.2.1 39 ∧ x44_22 = o9.2.2.1 44 ∧ x45_23 = o9.2.2.1 45 ∧ x1_15 = o9.2.2.1 1 ∧ x2_16 = o9.2.2.1 2 ∧ x40_18 = o9.2.2.1 40 ∧ x41_19 = o9.2.2.1 41 ∧ x42_20 = o9.2.2.1 42 ∧ x43_21 = o9.2.2.1 43 ∧ y4_24 = o9.2.2.2 4 ∧ y5_25 = o9.2.2.2 5 ∧ y6_26 = o9.2.2.2 6 ∧ y7_27 = o9.2.2.2 7 ∧ y8_28 = o9.2.2.2 8 ∧ y9_29 = o9.2.2.2 9 ∧ y10_30 = o9.2.2.2 10 ∧ y11_31 = o9.2.2.2 11 ∧ y14_32 = o9.2.2.2 14 ∧ y15_33 = o9.2.2.2 15 ∧ y17_34 = o9.2.2.2 17 ∧ y18_35 = o9.2.2.2 18) := hw
  obtain ⟨⟨z_36, rfl⟩, hwP⟩ := hw
  have hab0 : z_9 = z_2 := by rw [ez_9, ez_8, ez_2, ez_1]
  have hab1 : z_11 = z_4 := by rw [ez_11, ez_10, ez_4, ez_3]
  have hab2 : z_13 = z_6 := by rw [ez_13, ez_12, ez_6, ez_5]
  rw [hab0, hab1, hab2] at hwP
  rw [hab0] at hlV
  obtain ⟨hth, hout, hI2⟩ := both_run (i2 := (va_up (va_up (va_up (va_up (va_up (va_up (va_up (va_up (va_up (va_up i 0 x0_14) 1 x1_15) 2 x2_16) 39 x39_17) 40 x40_18) 41 x41_19) 42 x42_20) 43 x43_21) 44 x44_22) 45 x45_23)) (a2 := (va_up (va_up (va_up (va_up (va_up (va_up (va_up (va_up (va_up (va_up (va_up (va_up a 4 y4_24) 5 y5_25) 6 y6_26) 7 y7_27) 8 y8_28) 9 y9_29) 10 y10_30) 11 y11_31) 14 y14_32) 15 y15_33) 17 y17_34) 18 y18_35)) hI hB9 hW2 hE2 hco hNV hlV hwP (Eqx.up (by decide) (Eqx.up (by decide) (Eqx.up (by decide) (Eqx.up (by decide) (Eqx.up (by decide) (Eqx.up (by decide) (Eqx.up (by decide) (Eqx.up (by decide) (Eqx.up (by decide) (Eqx.up (by decide) Eqx.rf)))))))))) (Eqx.up (by decide) (Eqx.up (by decide) (Eqx.up (by decide) (Eqx.up (by decide) (Eqx.up (by decide) (Eqx.up (by decide) (Eqx.up (by decide) (Eqx.up (by decide) (Eqx.up (by decide) (Eqx.up (by decide) (Eqx.up (by decide) (Eqx.up (by decide) Eqx.rf)))))))))))) ⟨rfl, rfl, rfl, rfl, rfl, rfl, rfl, rfl, rfl, rfl, rfl, rfl, rfl, rfl, rfl, rfl, rfl, rfl, rfl, rfl, rfl⟩
  have hP : va_P (dC, dI) vwCl ((va_pl L2 f2 ++ [(ou, .inl (co, 1, .inr (.inl fo2)))]) ++ mw gm m0 bm (va_up (va_up (va_up (va_up (va_up (va_up (va_up (va_up (va_up (va_up i 0 x0_14) 1 x1_15) 2 x2_16) 39 x39_17) 40 x40_18) 41 x41_19) 42 x42_20) 43 x43_21) 44 x44_22) 45 x45_23) (va_up (va_up (va_up (va_up (va_up (va_up (va_up (va_up (va_up (va_up (va_up (va_up a 4 y4_24) 5 y5_25) 6 y6_26) 7 y7_27) 8 y8_28) 9 y9_29) 10 y10_30) 11 y11_31) 14 y14_32) 15 y15_33) 17 y17_34) 18 y18_35)) _ := hP
  have hD : va_D _ ((va_pl L2 f2 ++ [(ou, .inl (co, 1, .inr (.inl fo2)))]) ++ mw gm m0 bm (va_up (va_up (va_up (va_up (va_up (va_up (va_up (va_up (va_up (va_up i 0 x0_14) 1 x1_15) 2 x2_16) 39 x39_17) 40 x40_18) 41 x41_19) 42 x42_20) 43 x43_21) 44 x44_22) 45 x45_23) (va_up (va_up (va_up (va_up (va_up (va_up (va_up (va_up (va_up (va_up (va_up (va_up a 4 y4_24) 5 y5_25) 6 y6_26) 7 y7_27) 8 y8_28) 9 y9_29) 10 y10_30) 11 y11_31) 14 y14_32) 15 y15_33) 17 y17_34) 18 y18_35)) := hD
  refine W.eq (g2 := F0 m 573 ls [.int z_36]) rfl ?_
  refine lv_istore (lv' := [(6, .int z_36), (5, .int z_7), (4, .int ii), (3, .ref ou), (2, .ref m0), (1, .ref x0), (0, .ref b)]) hx hb dL_law_573 hl (by decide) rfl (fun ls hl => ?_)
  refine lv_goto (tgt := 938) hx hb dL_law_575 (by decide) ?_
  exact W.widen (by omega) (by omega) (hk L2 f2 fo2 (va_up (va_up (va_up (va_up (va_up (va_up (va_up (va_up (va_up (va_up i 0 x0_14) 1 x1_15) 2 x2_16) 39 x39_17) 40 x40_18) 41 x41_19) 42 x42_20) 43 x43_21) 44 x44_22) 45 x45_23) (va_up (va_up (va_up (va_up (va_up (va_up (va_up (va_up (va_up (va_up (va_up (va_up a 4 y4_24) 5 y5_25) 6 y6_26) 7 y7_27) 8 y8_28) 9 y9_29) 10 y10_30) 11 y11_31) 14 y14_32) 15 y15_33) 17 y17_34) 18 y18_35) _ _ _ (hI2.mo (by omega)) hP hD hS (lv_sub hl [2, 3, 4, 5, 6] rfl))

set_option maxHeartbeats 4000000 in
set_option maxRecDepth 100000 in
theorem lo_ran {p : Program} {l : Launch} {e : Env} {s : State} {m : MethodId} {below : List Frame} {meth : Method} {c : Code} {b Ln : Nat} {xs : Nat → Int32} (hlt : l.stackTraces = false) (C0 : lw_At p s m meth c b Ln xs) (hLn : Ln ≤ 3072) {dC : Nat → ClassId} {dI : Nat → Nat → Nat} {sa : Nat → Nat} (hev : ev sa (fun q : Nat => s.heap.size ≤ q) s s.heap) {x0 rdr tok tp ka sta vaa wk vs cl ru pl tvr tc rc m0 ou : Nat} {va tv : Nat → Nat} {co : ClassId} {g gm bm : Nat → Nat} (hK : va_K (dC, dI) vwCl (tyG g ++ [(co, .long)] ++ tyM gm) s) {L : List Nat} {f : Nat → va_E} {fo : Nat → Int64} {i : Nat → Int32} {a : Nat → Nat → Int32} {H : Heap} {locs : List Loc} {ls : Array Slot} {cells slots t : Nat} {ii : Int32} (hI : LI g ((x0, rdr, tok, tp, ka, sta, vaa), (wk, vs, cl, ru, va), (pl, tvr, tc, tv), rc) ((10000 * t : Nat) : Int) L f i a) (hP : va_P (dC, dI) vwCl ((va_pl L f ++ [(ou, .inl (co, 1, .inr (.inl fo)))]) ++ mw gm m0 bm i a) H) (hD : va_D (fun q : Nat => s.heap.size ≤ q) ((va_pl L f ++ [(ou, .inl (co, 1, .inr (.inl fo)))]) ++ mw gm m0 bm i a)) (hS : va_S (fun q : Nat => s.heap.size ≤ q) s.heap H locs) (hl : lv_has ls 7 [(4, .int ii), (3, .ref ou), (2, .ref m0), (1, .ref x0), (0, .ref b)]) (hii : ii = nI (6 * t)) (ht : 6 * t + 6 ≤ Ln) (hc : cells + 303 ≤ 601024) (hs : slots + 2415 ≤ 7293034) (hk : ∀ (L2 : List Nat) (f2 : Nat → va_E) (fo2 : Nat → Int64) (i2 : Nat → Int32) (a2 : Nat → Nat → Int32) (H : Heap) (locs : List Loc) (ls : Array Slot), LI g ((x0, rdr, tok, tp, ka, sta, vaa), (wk, vs, cl, ru, va), (pl, tvr, tc, tv), rc) ((10000 * (t + 1) : Nat) : Int) L2 f2 i2 a2 → va_P (dC, dI) vwCl ((va_pl L2 f2 ++ [(ou, .inl (co, 1, .inr (.inl fo2)))]) ++ mw gm m0 bm i2 a2) H → va_D (fun q : Nat => s.heap.size ≤ q) ((va_pl L2 f2 ++ [(ou, .inl (co, 1, .inr (.inl fo2)))]) ++ mw gm m0 bm i2 a2) → va_S (fun q : Nat => s.heap.size ≤ q) s.heap H locs → lv_has ls 7 [(4, .int ii), (3, .ref ou), (2, .ref m0), (1, .ref x0), (0, .ref b)] → W p l e room_1 s m #[Value.ref b] below meth c H locs (cells + 303) (slots + 2415) (lw_Z below #[Value.ref b] s) (F0 m 938 ls [])) : W p l e room_1 s m #[Value.ref b] below meth c H locs cells slots (lw_Z below #[Value.ref b] s) (F0 m 578 ls []) := by
  obtain ⟨hx, hb, hr, hml, hown, hts, hX, hbl, hlocks, hgv⟩ := id C0
  have hown : s.vm.findClass RL = some m.cls := hown
  have hA : ∀ q : Nat, s.heap.size ≤ q → (fun q : Nat => s.heap.size ≤ q) q := fun _ h => h
  have hbA : ¬ (fun q : Nat => s.heap.size ≤ q) b := Nat.not_le.mpr hbl
  obtain ⟨hT0, ⟨⟨hRF, tt, hCN, hag⟩, ⟨hSR, h7, hPL⟩, hTE⟩, hGI, ht2, hBI, hkp⟩ := id hI
  have hB9 : ((10000 * t : Nat) : Int) ≤ 9000000 := by omega
  refine lv_aload_n hx hb dL_law_578 rfl (lv_at hl 3 rfl) ?_
  refine lv_aload_n hx hb dL_law_579 rfl (lv_at hl 4 rfl) ?_
  refine lv_iload hx hb dL_law_580 (lv_at hl 0 rfl) ?_
  refine lv_iconst (v := 1) hx hb dL_law_582 (by decide) ?_
  refine lv_iadd hx hb dL_law_583 ?_
  refine lv_topi (fun z_1 ez_1 => ?_)
  refine va_sld hx hb hX hbl hbA hS (sc_in ez_1 hii (by decide : (1 : Int32) = nI 1) (by decide) ht hLn) dL_law_584 ?_
  refine lv_topi (fun z_2 ez_2 => ?_)
  refine lv_aload_n hx hb dL_law_585 rfl (lv_at hl 1 rfl) ?_
  refine NW_S (hh := [(0, 9, 12, 13)]) ⟨hx, hb, hml, hown, hts⟩ (wS_ran l dC dI sa g _ _ x0 ou co _ z_2 _ (hT0.sub [0] rfl) (fun sz => (t_X9_ranS l dC dI sa hlt g _ _ va (i, a) x0 z_2 wk vs cl ru sz (hT0.sub [0, 7, 8, 9, 10] rfl) hSR.1.2.1 hSR.1.2.2.2.2.1 hSR.1.2.2.1 hSR.1.2.2.2.1 hSR ⟨hGI.1.1, hGI.1.2.1, hGI.1.2.2.1, Int.le_trans hGI.1.2.2.2 hB9⟩)) (fun _ _ _ h9 => h9.1) (fun _ _ _ h9 => h9.1.1)) (vx_cwSW 3 hts gL_law_L_ran rfl rfl rfl (by decide +kernel) ⟨Nat.le_of_ble_eq_true rfl, Nat.le_of_ble_eq_true rfl⟩) hP hD (hK.sub [0, 1, 2, 3, 4, 5, 6, 7, 8, 9, 10, 11] rfl) hS hA hev rfl hl.1 rfl (Nat.le_of_ble_eq_true rfl) dL_law_586 ⟨by show _ + 1 ≤ 601024; omega, by show _ + 6 ≤ 7293034; omega⟩ (fun r u H locs hw hP hD hS => ?_)
  obtain ⟨⟨L2, f2⟩, fo2⟩ := u
  obtain ⟨hW2, hE2, hw⟩ := hw
  have hE2 : Ext L f L2 f2 := hE2
  have hco : CO g L f L2 f2 (x0, wk, vs, cl, ru, va) (raS z_2 (i, a)) r (fo2 0) := co1 hSR hE2 (by decide) hw
  obtain ⟨z_3, rfl⟩ : ∃ z : Int32, r = some (.int z) := ⟨_, hco.1⟩
  have hP : va_P (dC, dI) vwCl ((va_pl L2 f2 ++ [(ou, .inl (co, 1, .inr (.inl fo2)))]) ++ mw gm m0 bm i a) _ := hP
  have hD : va_D _ ((va_pl L2 f2 ++ [(ou, .inl (co, 1, .inr (.inl fo2)))]) ++ mw gm m0 bm i a) := hD
  refine W.eq (g2 := F0 m 589 ls [.int z_3]) rfl ?_
  refine lv_istore (lv' := [(5, .int z_3), (4, .int ii), (3, .ref ou), (2, .ref m0), (1, .ref x0), (0, .ref b)]) hx hb dL_law_589 hl (by decide) rfl (fun ls hl => ?_)
  refine lv_aload_n hx hb dL_law_591 rfl (lv_at hl 3 rfl) ?_
  refine lv_aload_n hx hb dL_law_592 rfl (lv_at hl 5 rfl) ?_
  refine lv_iload hx hb dL_law_593 (lv_at hl 1 rfl) ?_
  refine lv_iconst (v := 1) hx hb dL_law_595 (by decide) ?_
  refine lv_iadd hx hb dL_law_596 ?_
  refine lv_topi (fun z_4 ez_4 => ?_)
  refine va_sld hx hb hX hbl hbA hS (sc_in ez_4 hii (by decide : (1 : Int32) = nI 1) (by decide) ht hLn) dL_law_597 ?_
  refine lv_topi (fun z_5 ez_5 => ?_)
  refine NV_V ⟨hx, hb, hml, hown, hts⟩ (m_X10_ranE l dC dI sa gm m0 bm i a z_5 _ ) (cwV 1 hts gL_law_X10_ran rfl rfl rfl (by decide +kernel) ⟨Nat.le_of_ble_eq_true rfl, Nat.le_of_ble_eq_true rfl⟩) hP hD (hK.sub [12, 13, 14, 15, 16, 17, 18, 19, 20, 21, 22, 23, 24, 25, 26, 27, 28, 29, 30, 31, 32, 33, 34, 35, 36, 37, 38, 39, 40] rfl) hS hA hev rfl rfl rfl rfl hl.1 rfl (Nat.le_of_ble_eq_true rfl) dL_law_598 ⟨by show _ + 0 ≤ 601024; omega, by show _ + 0 ≤ 7293034; omega⟩ (fun r u H locs hw hP hD hS => ?_)
  obtain ⟨x0_6, rfl⟩ : ∃ z, z = u := ⟨_, rfl⟩
  have hw : (∃ z : Int32, r = some (.int z)) ∧ (x0_6 = (raS z_5 (i, a)).1 ∧ ((raS z_5 (i, a)).1 = 0 → r = some (.int (raS z_5 (i, a)).2.1))) := hw
  obtain ⟨⟨z_7, rfl⟩, hwP⟩ := hw
  have hab0 : z_5 = z_2 := by rw [ez_5, ez_4, ez_2, ez_1]
  rw [hab0] at hwP
  obtain ⟨hm0, hm1⟩ := hwP
  obtain ⟨hth, hout, hI2⟩ := both_op (K := []) (KA_ := []) (i2 := (va_up i 0 x0_6)) (a2 := a) hI hW2 hE2 hco (by rw [fx_ra.id]; exact hGI) fx_ra hm0 hm1 (Eqx.up (by decide) Eqx.rf) Eqx.rf (fun k hk => absurd hk (by simp)) (fun k hk => absurd hk (by simp)) (by decide) (by decide)
  have hP : va_P (dC, dI) vwCl ((va_pl L2 f2 ++ [(ou, .inl (co, 1, .inr (.inl fo2)))]) ++ mw gm m0 bm (va_up i 0 x0_6) a) _ := hP
  have hD : va_D _ ((va_pl L2 f2 ++ [(ou, .inl (co, 1, .inr (.inl fo2)))]) ++ mw gm m0 bm (va_up i 0 x0_6) a) := hD
  refine W.eq (g2 := F0 m 601 ls [.int z_7]) rfl ?_
  refine lv_istore (lv' := [(6, .int z_7), (5, .int z_3), (4, .int ii), (3, .ref ou), (2, .ref m0), (1, .ref x0), (0, .ref b)]) hx hb dL_law_601 hl (by decide) rfl (fun ls hl => ?_)
  refine lv_goto (tgt := 938) hx hb dL_law_603 (by decide) ?_
  exact W.widen (by omega) (by omega) (hk L2 f2 fo2 (va_up i 0 x0_6) a _ _ _ (hI2.mo (by omega)) hP hD hS (lv_sub hl [2, 3, 4, 5, 6] rfl))

set_option maxHeartbeats 4000000 in
set_option maxRecDepth 100000 in
theorem lo_plan {p : Program} {l : Launch} {e : Env} {s : State} {m : MethodId} {below : List Frame} {meth : Method} {c : Code} {b Ln : Nat} {xs : Nat → Int32} (hlt : l.stackTraces = false) (C0 : lw_At p s m meth c b Ln xs) (hLn : Ln ≤ 3072) {dC : Nat → ClassId} {dI : Nat → Nat → Nat} {sa : Nat → Nat} (hev : ev sa (fun q : Nat => s.heap.size ≤ q) s s.heap) {x0 rdr tok tp ka sta vaa wk vs cl ru pl tvr tc rc m0 ou : Nat} {va tv : Nat → Nat} {co : ClassId} {g gm bm : Nat → Nat} (hK : va_K (dC, dI) vwCl (tyG g ++ [(co, .long)] ++ tyM gm) s) {L : List Nat} {f : Nat → va_E} {fo : Nat → Int64} {i : Nat → Int32} {a : Nat → Nat → Int32} {H : Heap} {locs : List Loc} {ls : Array Slot} {cells slots t : Nat} {ii : Int32} (hI : LI g ((x0, rdr, tok, tp, ka, sta, vaa), (wk, vs, cl, ru, va), (pl, tvr, tc, tv), rc) ((10000 * t : Nat) : Int) L f i a) (hP : va_P (dC, dI) vwCl ((va_pl L f ++ [(ou, .inl (co, 1, .inr (.inl fo)))]) ++ mw gm m0 bm i a) H) (hD : va_D (fun q : Nat => s.heap.size ≤ q) ((va_pl L f ++ [(ou, .inl (co, 1, .inr (.inl fo)))]) ++ mw gm m0 bm i a)) (hS : va_S (fun q : Nat => s.heap.size ≤ q) s.heap H locs) (hl : lv_has ls 7 [(4, .int ii), (3, .ref ou), (2, .ref m0), (1, .ref x0), (0, .ref b)]) (hii : ii = nI (6 * t)) (ht : 6 * t + 6 ≤ Ln) (hc : cells + 303 ≤ 601024) (hs : slots + 2415 ≤ 7293034) (hk : ∀ (L2 : List Nat) (f2 : Nat → va_E) (fo2 : Nat → Int64) (i2 : Nat → Int32) (a2 : Nat → Nat → Int32) (H : Heap) (locs : List Loc) (ls : Array Slot), LI g ((x0, rdr, tok, tp, ka, sta, vaa), (wk, vs, cl, ru, va), (pl, tvr, tc, tv), rc) ((10000 * (t + 1) : Nat) : Int) L2 f2 i2 a2 → va_P (dC, dI) vwCl ((va_pl L2 f2 ++ [(ou, .inl (co, 1, .inr (.inl fo2)))]) ++ mw gm m0 bm i2 a2) H → va_D (fun q : Nat => s.heap.size ≤ q) ((va_pl L2 f2 ++ [(ou, .inl (co, 1, .inr (.inl fo2)))]) ++ mw gm m0 bm i2 a2) → va_S (fun q : Nat => s.heap.size ≤ q) s.heap H locs → lv_has ls 7 [(4, .int ii), (3, .ref ou), (2, .ref m0), (1, .ref x0), (0, .ref b)] → W p l e room_1 s m #[Value.ref b] below meth c H locs (cells + 303) (slots + 2415) (lw_Z below #[Value.ref b] s) (F0 m 938 ls [])) : W p l e room_1 s m #[Value.ref b] below meth c H locs cells slots (lw_Z below #[Value.ref b] s) (F0 m 606 ls []) := by
  obtain ⟨hx, hb, hr, hml, hown, hts, hX, hbl, hlocks, hgv⟩ := id C0
  have hown : s.vm.findClass RL = some m.cls := hown
  have hA : ∀ q : Nat, s.heap.size ≤ q → (fun q : Nat => s.heap.size ≤ q) q := fun _ h => h
  have hbA : ¬ (fun q : Nat => s.heap.size ≤ q) b := Nat.not_le.mpr hbl
  obtain ⟨hT0, ⟨⟨hRF, tt, hCN, hag⟩, ⟨hSR, h7, hPL⟩, hTE⟩, hGI, ht2, hBI, hkp⟩ := id hI
  have hB9 : ((10000 * t : Nat) : Int) ≤ 9000000 := by omega
  refine lv_aload_n hx hb dL_law_606 rfl (lv_at hl 3 rfl) ?_
  refine lv_aload_n hx hb dL_law_607 rfl (lv_at hl 4 rfl) ?_
  refine lv_iload hx hb dL_law_608 (lv_at hl 0 rfl) ?_
  refine lv_iconst (v := 1) hx hb dL_law_610 (by decide) ?_
  refine lv_iadd hx hb dL_law_611 ?_
  refine lv_topi (fun z_1 ez_1 => ?_)
  refine va_sld hx hb hX hbl hbA hS (sc_in ez_1 hii (by decide : (1 : Int32) = nI 1) (by decide) ht hLn) dL_law_612 ?_
  refine lv_topi (fun z_2 ez_2 => ?_)
  refine lv_aload_n hx hb dL_law_613 rfl (lv_at hl 4 rfl) ?_
  refine lv_iload hx hb dL_law_614 (lv_at hl 0 rfl) ?_
  refine lv_iconst (v := 2) hx hb dL_law_616 (by decide) ?_
  refine lv_iadd hx hb dL_law_617 ?_
  refine lv_topi (fun z_3 ez_3 => ?_)
  refine va_sld hx hb hX hbl hbA hS (sc_in ez_3 hii (by decide : (2 : Int32) = nI 2) (by decide) ht hLn) dL_law_618 ?_
  refine lv_topi (fun z_4 ez_4 => ?_)
  refine lv_aload_n hx hb dL_law_619 rfl (lv_at hl 4 rfl) ?_
  refine lv_iload hx hb dL_law_620 (lv_at hl 0 rfl) ?_
  refine lv_iconst (v := 3) hx hb dL_law_622 (by decide) ?_
  refine lv_iadd hx hb dL_law_623 ?_
  refine lv_topi (fun z_5 ez_5 => ?_)
  refine va_sld hx hb hX hbl hbA hS (sc_in ez_5 hii (by decide : (3 : Int32) = nI 3) (by decide) ht hLn) dL_law_624 ?_
  refine lv_topi (fun z_6 ez_6 => ?_)
  refine lv_aload_n hx hb dL_law_625 rfl (lv_at hl 4 rfl) ?_
  refine lv_iload hx hb dL_law_626 (lv_at hl 0 rfl) ?_
  refine lv_iconst (v := 4) hx hb dL_law_628 (by decide) ?_
  refine lv_iadd hx hb dL_law_629 ?_
  refine lv_topi (fun z_7 ez_7 => ?_)
  refine va_sld hx hb hX hbl hbA hS (sc_in ez_7 hii (by decide : (4 : Int32) = nI 4) (by decide) ht hLn) dL_law_630 ?_
  refine lv_topi (fun z_8 ez_8 => ?_)
  refine lv_aload_n hx hb dL_law_631 rfl (lv_at hl 1 rfl) ?_
  refine NW_S (hh := [(0, 14, 17, 13), (0, 14, 21, 18)]) ⟨hx, hb, hml, hown, hts⟩ (wS_plan l dC dI sa g _ _ x0 ou co _ z_2 z_4 z_6 z_8 _ (hT0.sub [0] rfl) (fun sz => (t_X9_planS l dC dI sa hlt g _ _ va (i, a) tv x0 z_2 z_4 z_6 z_8 wk vs cl ru pl tvr tc sz (hT0.sub [0, 7, 8, 9, 10, 11, 12, 13] rfl) hSR.1.2.1 hSR.1.2.2.2.2.1 hSR.1.2.2.1 hSR.1.2.2.2.1 hPL.1.1 hPL.1.2.1 hPL.1.2.2.1 hPL.1.2.2.2 hSR ⟨hGI.1.1, hGI.1.2.1, hGI.1.2.2.1, Int.le_trans hGI.1.2.2.2 hB9⟩ hPL.2.1 hPL.2.2.1 (fun k9 _ => hPL.2.2.2 k9))) (fun _ _ _ h9 => h9.1) (fun _ _ _ h9 => h9.1)) (vx_cwSW 6 hts gL_law_L_plan rfl rfl rfl (by decide +kernel) ⟨Nat.le_of_ble_eq_true rfl, Nat.le_of_ble_eq_true rfl⟩) hP hD (hK.sub [0, 1, 2, 3, 4, 5, 6, 7, 8, 9, 10, 11] rfl) hS hA hev rfl hl.1 rfl (Nat.le_of_ble_eq_true rfl) dL_law_632 ⟨by show _ + 2 ≤ 601024; omega, by show _ + 12 ≤ 7293034; omega⟩ (fun r u H locs hw hP hD hS => ?_)
  obtain ⟨⟨L2, f2⟩, fo2⟩ := u
  obtain ⟨hW2, hE2, hw⟩ := hw
  have hE2 : Ext L f L2 f2 := hE2
  obtain ⟨z_9, rfl⟩ := wr_z3 hw
  obtain ⟨hS2, cs2, hcs2, hF2⟩ := st_fr hSR hE2 (by decide) hw
  have hI1 := hI.still hW2 hE2 hF2 hcs2 hS2
  have hP : va_P (dC, dI) vwCl ((va_pl L2 f2 ++ [(ou, .inl (co, 1, .inr (.inl fo2)))]) ++ mw gm m0 bm i a) _ := hP
  have hD : va_D _ ((va_pl L2 f2 ++ [(ou, .inl (co, 1, .inr (.inl fo2)))]) ++ mw gm m0 bm i a) := hD
  refine W.eq (g2 := F0 m 635 ls [.int z_9]) rfl ?_
  refine lv_istore (lv' := [(5, .int z_9), (4, .int ii), (3, .ref ou), (2, .ref m0), (1, .ref x0), (0, .ref b)]) hx hb dL_law_635 hl (by decide) rfl (fun ls hl => ?_)
  refine lv_aload_n hx hb dL_law_637 rfl (lv_at hl 3 rfl) ?_
  refine lv_aload_n hx hb dL_law_638 rfl (lv_at hl 5 rfl) ?_
  refine lv_iload hx hb dL_law_639 (lv_at hl 1 rfl) ?_
  refine lv_iconst (v := 1) hx hb dL_law_641 (by decide) ?_
  refine lv_iadd hx hb dL_law_642 ?_
  refine lv_topi (fun z_10 ez_10 => ?_)
  refine va_sld hx hb hX hbl hbA hS (sc_in ez_10 hii (by decide : (1 : Int32) = nI 1) (by decide) ht hLn) dL_law_643 ?_
  refine lv_topi (fun z_11 ez_11 => ?_)
  refine lv_aload_n hx hb dL_law_644 rfl (lv_at hl 5 rfl) ?_
  refine lv_iload hx hb dL_law_645 (lv_at hl 1 rfl) ?_
  refine lv_iconst (v := 2) hx hb dL_law_647 (by decide) ?_
  refine lv_iadd hx hb dL_law_648 ?_
  refine lv_topi (fun z_12 ez_12 => ?_)
  refine va_sld hx hb hX hbl hbA hS (sc_in ez_12 hii (by decide : (2 : Int32) = nI 2) (by decide) ht hLn) dL_law_649 ?_
  refine lv_topi (fun z_13 ez_13 => ?_)
  refine lv_aload_n hx hb dL_law_650 rfl (lv_at hl 5 rfl) ?_
  refine lv_iload hx hb dL_law_651 (lv_at hl 1 rfl) ?_
  refine lv_iconst (v := 3) hx hb dL_law_653 (by decide) ?_
  refine lv_iadd hx hb dL_law_654 ?_
  refine lv_topi (fun z_14 ez_14 => ?_)
  refine va_sld hx hb hX hbl hbA hS (sc_in ez_14 hii (by decide : (3 : Int32) = nI 3) (by decide) ht hLn) dL_law_655 ?_
  refine lv_topi (fun z_15 ez_15 => ?_)
  refine lv_aload_n hx hb dL_law_656 rfl (lv_at hl 5 rfl) ?_
  refine lv_iload hx hb dL_law_657 (lv_at hl 1 rfl) ?_
  refine lv_iconst (v := 4) hx hb dL_law_659 (by decide) ?_
  refine lv_iadd hx hb dL_law_660 ?_
  refine lv_topi (fun z_16 ez_16 => ?_)
  refine va_sld hx hb hX hbl hbA hS (sc_in ez_16 hii (by decide : (4 : Int32) = nI 4) (by decide) ht hLn) dL_law_661 ?_
  refine lv_topi (fun z_17 ez_17 => ?_)
  refine NV_V ⟨hx, hb, hml, hown, hts⟩ (m_X10_planE l dC dI sa gm m0 bm i a z_11 z_13 z_15 z_17 _ hGI.1.2.1 hkp) (cwV 4 hts gL_law_X10_plan rfl rfl rfl (by decide +kernel) ⟨Nat.le_of_ble_eq_true rfl, Nat.le_of_ble_eq_true rfl⟩) hP hD (hK.sub [12, 13, 14, 15, 16, 17, 18, 19, 20, 21, 22, 23, 24, 25, 26, 27, 28, 29, 30, 31, 32, 33, 34, 35, 36, 37, 38, 39, 40] rfl) hS hA hev rfl rfl rfl rfl hl.1 rfl (Nat.le_of_ble_eq_true rfl) dL_law_662 ⟨by show _ + 0 ≤ 601024; omega, by show _ + 0 ≤ 7293034; omega⟩ (fun r u H locs hw hP hD hS => ?_)
  obtain ⟨x0_18, x46_19, y4_20, y5_21, y6_22, y7_23, y14_24, y15_25, y47_26, y48_27, y49_28, y50_29⟩ := u
  have hw : (∃ z : Int32, r = some (.int z)) ∧ (y4_20 = (a 4) ∧ y5_21 = (a 5) ∧ y6_22 = (a 6) ∧ y7_23 = (a 7) ∧ y14_24 = (a 14) ∧ y15_25 = (a 15) ∧ x46_19.toInt ≤ 3) := hw
  obtain ⟨⟨z_30, rfl⟩, hwP⟩ := hw
  have hab0 : z_11 = z_2 := by rw [ez_11, ez_10, ez_2, ez_1]
  have hab1 : z_13 = z_4 := by rw [ez_13, ez_12, ez_4, ez_3]
  have hab2 : z_15 = z_6 := by rw [ez_15, ez_14, ez_6, ez_5]
  have hab3 : z_17 = z_8 := by rw [ez_17, ez_16, ez_8, ez_7]
  obtain ⟨hr4, hr5, hr6, hr7, hr14, hr15, hk46⟩ := hwP
  have he2 : Eqx [47, 48, 49, 50] (va_up (va_up (va_up (va_up (va_up (va_up (va_up (va_up (va_up (va_up a 4 y4_20) 5 y5_21) 6 y6_22) 7 y7_23) 14 y14_24) 15 y15_25) 47 y47_26) 48 y48_27) 49 y49_28) 50 y50_29) a := (Eqx.up (by decide) (Eqx.up (by decide) (Eqx.up (by decide) (Eqx.up (by decide) (Eqx.ups hr15 (Eqx.ups hr14 (Eqx.ups hr7 (Eqx.ups hr6 (Eqx.ups hr5 (Eqx.ups hr4 Eqx.rf))))))))))
  have hI2 := LI.cg (i2 := (va_up (va_up i 0 x0_18) 46 x46_19)) (a2 := (va_up (va_up (va_up (va_up (va_up (va_up (va_up (va_up (va_up (va_up a 4 y4_20) 5 y5_21) 6 y6_22) 7 y7_23) 14 y14_24) 15 y15_25) 47 y47_26) 48 y48_27) 49 y49_28) 50 y50_29)) hI1 (by intro j hj; simp only [List.mem_cons, List.not_mem_nil, or_false] at hj; rcases hj with rfl | rfl | rfl | rfl | rfl | rfl | rfl | rfl | rfl | rfl | rfl | rfl | rfl | rfl | rfl <;> rfl) hk46 (fun j hj => he2 j (by simp only [List.mem_cons, List.not_mem_nil, or_false]; omega))
  have hP : va_P (dC, dI) vwCl ((va_pl L2 f2 ++ [(ou, .inl (co, 1, .inr (.inl fo2)))]) ++ mw gm m0 bm (va_up (va_up i 0 x0_18) 46 x46_19) (va_up (va_up (va_up (va_up (va_up (va_up (va_up (va_up (va_up (va_up a 4 y4_20) 5 y5_21) 6 y6_22) 7 y7_23) 14 y14_24) 15 y15_25) 47 y47_26) 48 y48_27) 49 y49_28) 50 y50_29)) _ := hP
  have hD : va_D _ ((va_pl L2 f2 ++ [(ou, .inl (co, 1, .inr (.inl fo2)))]) ++ mw gm m0 bm (va_up (va_up i 0 x0_18) 46 x46_19) (va_up (va_up (va_up (va_up (va_up (va_up (va_up (va_up (va_up (va_up a 4 y4_20) 5 y5_21) 6 y6_22) 7 y7_23) 14 y14_24) 15 y15_25) 47 y47_26) 48 y48_27) 49 y49_28) 50 y50_29)) := hD
  refine W.eq (g2 := F0 m 665 ls [.int z_30]) rfl ?_
  refine lv_istore (lv' := [(6, .int z_30), (5, .int z_9), (4, .int ii), (3, .ref ou), (2, .ref m0), (1, .ref x0), (0, .ref b)]) hx hb dL_law_665 hl (by decide) rfl (fun ls hl => ?_)
  refine lv_goto (tgt := 938) hx hb dL_law_667 (by decide) ?_
  exact W.widen (by omega) (by omega) (hk L2 f2 fo2 (va_up (va_up i 0 x0_18) 46 x46_19) (va_up (va_up (va_up (va_up (va_up (va_up (va_up (va_up (va_up (va_up a 4 y4_20) 5 y5_21) 6 y6_22) 7 y7_23) 14 y14_24) 15 y15_25) 47 y47_26) 48 y48_27) 49 y49_28) 50 y50_29) _ _ _ (hI2.mo (by omega)) hP hD hS (lv_sub hl [2, 3, 4, 5, 6] rfl))

set_option maxHeartbeats 4000000 in
set_option maxRecDepth 100000 in
theorem lo_planned {p : Program} {l : Launch} {e : Env} {s : State} {m : MethodId} {below : List Frame} {meth : Method} {c : Code} {b Ln : Nat} {xs : Nat → Int32} (hlt : l.stackTraces = false) (C0 : lw_At p s m meth c b Ln xs) (hLn : Ln ≤ 3072) {dC : Nat → ClassId} {dI : Nat → Nat → Nat} {sa : Nat → Nat} (hev : ev sa (fun q : Nat => s.heap.size ≤ q) s s.heap) {x0 rdr tok tp ka sta vaa wk vs cl ru pl tvr tc rc m0 ou : Nat} {va tv : Nat → Nat} {co : ClassId} {g gm bm : Nat → Nat} (hK : va_K (dC, dI) vwCl (tyG g ++ [(co, .long)] ++ tyM gm) s) {L : List Nat} {f : Nat → va_E} {fo : Nat → Int64} {i : Nat → Int32} {a : Nat → Nat → Int32} {H : Heap} {locs : List Loc} {ls : Array Slot} {cells slots t : Nat} {ii : Int32} (hI : LI g ((x0, rdr, tok, tp, ka, sta, vaa), (wk, vs, cl, ru, va), (pl, tvr, tc, tv), rc) ((10000 * t : Nat) : Int) L f i a) (hP : va_P (dC, dI) vwCl ((va_pl L f ++ [(ou, .inl (co, 1, .inr (.inl fo)))]) ++ mw gm m0 bm i a) H) (hD : va_D (fun q : Nat => s.heap.size ≤ q) ((va_pl L f ++ [(ou, .inl (co, 1, .inr (.inl fo)))]) ++ mw gm m0 bm i a)) (hS : va_S (fun q : Nat => s.heap.size ≤ q) s.heap H locs) (hl : lv_has ls 7 [(4, .int ii), (3, .ref ou), (2, .ref m0), (1, .ref x0), (0, .ref b)]) (hii : ii = nI (6 * t)) (ht : 6 * t + 6 ≤ Ln) (hc : cells + 303 ≤ 601024) (hs : slots + 2415 ≤ 7293034) (hk : ∀ (L2 : List Nat) (f2 : Nat → va_E) (fo2 : Nat → Int64) (i2 : Nat → Int32) (a2 : Nat → Nat → Int32) (H : Heap) (locs : List Loc) (ls : Array Slot), LI g ((x0, rdr, tok, tp, ka, sta, vaa), (wk, vs, cl, ru, va), (pl, tvr, tc, tv), rc) ((10000 * (t + 1) : Nat) : Int) L2 f2 i2 a2 → va_P (dC, dI) vwCl ((va_pl L2 f2 ++ [(ou, .inl (co, 1, .inr (.inl fo2)))]) ++ mw gm m0 bm i2 a2) H → va_D (fun q : Nat => s.heap.size ≤ q) ((va_pl L2 f2 ++ [(ou, .inl (co, 1, .inr (.inl fo2)))]) ++ mw gm m0 bm i2 a2) → va_S (fun q : Nat => s.heap.size ≤ q) s.heap H locs → lv_has ls 7 [(4, .int ii), (3, .ref ou), (2, .ref m0), (1, .ref x0), (0, .ref b)] → W p l e room_1 s m #[Value.ref b] below meth c H locs (cells + 303) (slots + 2415) (lw_Z below #[Value.ref b] s) (F0 m 938 ls [])) : W p l e room_1 s m #[Value.ref b] below meth c H locs cells slots (lw_Z below #[Value.ref b] s) (F0 m 670 ls []) := by
  obtain ⟨hx, hb, hr, hml, hown, hts, hX, hbl, hlocks, hgv⟩ := id C0
  have hown : s.vm.findClass RL = some m.cls := hown
  have hA : ∀ q : Nat, s.heap.size ≤ q → (fun q : Nat => s.heap.size ≤ q) q := fun _ h => h
  have hbA : ¬ (fun q : Nat => s.heap.size ≤ q) b := Nat.not_le.mpr hbl
  obtain ⟨hT0, ⟨⟨hRF, tt, hCN, hag⟩, ⟨hSR, h7, hPL⟩, hTE⟩, hGI, ht2, hBI, hkp⟩ := id hI
  have hB9 : ((10000 * t : Nat) : Int) ≤ 9000000 := by omega
  refine lv_aload_n hx hb dL_law_670 rfl (lv_at hl 3 rfl) ?_
  refine lv_aload_n hx hb dL_law_671 rfl (lv_at hl 4 rfl) ?_
  refine lv_iload hx hb dL_law_672 (lv_at hl 0 rfl) ?_
  refine lv_iconst (v := 1) hx hb dL_law_674 (by decide) ?_
  refine lv_iadd hx hb dL_law_675 ?_
  refine lv_topi (fun z_1 ez_1 => ?_)
  refine va_sld hx hb hX hbl hbA hS (sc_in ez_1 hii (by decide : (1 : Int32) = nI 1) (by decide) ht hLn) dL_law_676 ?_
  refine lv_topi (fun z_2 ez_2 => ?_)
  refine lv_aload_n hx hb dL_law_677 rfl (lv_at hl 4 rfl) ?_
  refine lv_iload hx hb dL_law_678 (lv_at hl 0 rfl) ?_
  refine lv_iconst (v := 2) hx hb dL_law_680 (by decide) ?_
  refine lv_iadd hx hb dL_law_681 ?_
  refine lv_topi (fun z_3 ez_3 => ?_)
  refine va_sld hx hb hX hbl hbA hS (sc_in ez_3 hii (by decide : (2 : Int32) = nI 2) (by decide) ht hLn) dL_law_682 ?_
  refine lv_topi (fun z_4 ez_4 => ?_)
  refine lv_aload_n hx hb dL_law_683 rfl (lv_at hl 1 rfl) ?_
  refine NW_S (hh := [(0, 10, 13, 13)]) ⟨hx, hb, hml, hown, hts⟩ (wS_planned l dC dI sa g _ _ x0 ou co _ z_2 z_4 _ (hT0.sub [0] rfl) (fun sz => (t_X9_planned l dC dI sa hlt g _ _ x0 z_2 z_4 sz (hT0.sub [0] rfl))) (fun _ _ _ h9 => h9.1) (fun _ _ _ h9 => h9.1)) (vx_cwSW 4 hts gL_law_L_planned rfl rfl rfl (by decide +kernel) ⟨Nat.le_of_ble_eq_true rfl, Nat.le_of_ble_eq_true rfl⟩) hP hD (hK.sub [0, 1, 2, 3, 4, 5, 6, 7, 8, 9, 10, 11] rfl) hS hA hev rfl hl.1 rfl (Nat.le_of_ble_eq_true rfl) dL_law_684 ⟨by show _ + 1 ≤ 601024; omega, by show _ + 6 ≤ 7293034; omega⟩ (fun r u H locs hw hP hD hS => ?_)
  obtain ⟨⟨L2, f2⟩, fo2⟩ := u
  obtain ⟨hW2, hE2, hw⟩ := hw
  have hE2 : Ext L f L2 f2 := hE2
  obtain ⟨z_5, rfl⟩ := wr_z hw
  obtain ⟨hS2, hF2⟩ := st_f0 hSR hE2 hw
  have hI1 := hI.still hW2 hE2 hF2 (by decide) hS2
  have hP : va_P (dC, dI) vwCl ((va_pl L2 f2 ++ [(ou, .inl (co, 1, .inr (.inl fo2)))]) ++ mw gm m0 bm i a) _ := hP
  have hD : va_D _ ((va_pl L2 f2 ++ [(ou, .inl (co, 1, .inr (.inl fo2)))]) ++ mw gm m0 bm i a) := hD
  refine W.eq (g2 := F0 m 687 ls [.int z_5]) rfl ?_
  refine lv_istore (lv' := [(5, .int z_5), (4, .int ii), (3, .ref ou), (2, .ref m0), (1, .ref x0), (0, .ref b)]) hx hb dL_law_687 hl (by decide) rfl (fun ls hl => ?_)
  refine lv_aload_n hx hb dL_law_689 rfl (lv_at hl 3 rfl) ?_
  refine lv_aload_n hx hb dL_law_690 rfl (lv_at hl 5 rfl) ?_
  refine lv_iload hx hb dL_law_691 (lv_at hl 1 rfl) ?_
  refine lv_iconst (v := 1) hx hb dL_law_693 (by decide) ?_
  refine lv_iadd hx hb dL_law_694 ?_
  refine lv_topi (fun z_6 ez_6 => ?_)
  refine va_sld hx hb hX hbl hbA hS (sc_in ez_6 hii (by decide : (1 : Int32) = nI 1) (by decide) ht hLn) dL_law_695 ?_
  refine lv_topi (fun z_7 ez_7 => ?_)
  refine lv_aload_n hx hb dL_law_696 rfl (lv_at hl 5 rfl) ?_
  refine lv_iload hx hb dL_law_697 (lv_at hl 1 rfl) ?_
  refine lv_iconst (v := 2) hx hb dL_law_699 (by decide) ?_
  refine lv_iadd hx hb dL_law_700 ?_
  refine lv_topi (fun z_8 ez_8 => ?_)
  refine va_sld hx hb hX hbl hbA hS (sc_in ez_8 hii (by decide : (2 : Int32) = nI 2) (by decide) ht hLn) dL_law_701 ?_
  refine lv_topi (fun z_9 ez_9 => ?_)
  refine NV_V ⟨hx, hb, hml, hown, hts⟩ (m_X10_planned l dC dI sa gm m0 bm i a z_7 z_9 _ hkp) (cwV 2 hts gL_law_X10_planned rfl rfl rfl (by decide +kernel) ⟨Nat.le_of_ble_eq_true rfl, Nat.le_of_ble_eq_true rfl⟩) hP hD (hK.sub [12, 13, 14, 15, 16, 17, 18, 19, 20, 21, 22, 23, 24, 25, 26, 27, 28, 29, 30, 31, 32, 33, 34, 35, 36, 37, 38, 39, 40] rfl) hS hA hev rfl rfl rfl rfl hl.1 rfl (Nat.le_of_ble_eq_true rfl) dL_law_702 ⟨by show _ + 0 ≤ 601024; omega, by show _ + 0 ≤ 7293034; omega⟩ (fun r u H locs hw hP hD hS => ?_)
  obtain ⟨x0_10, rfl⟩ : ∃ z, z = u := ⟨_, rfl⟩
  have hw : (∃ z : Int32, r = some (.int z)) ∧ (True) := hw
  obtain ⟨⟨z_11, rfl⟩, hwP⟩ := hw
  have hab0 : z_7 = z_2 := by rw [ez_7, ez_6, ez_2, ez_1]
  have hab1 : z_9 = z_4 := by rw [ez_9, ez_8, ez_4, ez_3]
  have hI2 := LI.cg (i2 := (va_up i 0 x0_10)) (a2 := a) hI1 (by intro j hj; simp only [List.mem_cons, List.not_mem_nil, or_false] at hj; rcases hj with rfl | rfl | rfl | rfl | rfl | rfl | rfl | rfl | rfl | rfl | rfl | rfl | rfl | rfl | rfl <;> rfl) hkp (fun j hj => rfl)
  have hP : va_P (dC, dI) vwCl ((va_pl L2 f2 ++ [(ou, .inl (co, 1, .inr (.inl fo2)))]) ++ mw gm m0 bm (va_up i 0 x0_10) a) _ := hP
  have hD : va_D _ ((va_pl L2 f2 ++ [(ou, .inl (co, 1, .inr (.inl fo2)))]) ++ mw gm m0 bm (va_up i 0 x0_10) a) := hD
  refine W.eq (g2 := F0 m 705 ls [.int z_11]) rfl ?_
  refine lv_istore (lv' := [(6, .int z_11), (5, .int z_5), (4, .int ii), (3, .ref ou), (2, .ref m0), (1, .ref x0), (0, .ref b)]) hx hb dL_law_705 hl (by decide) rfl (fun ls hl => ?_)
  refine lv_goto (tgt := 938) hx hb dL_law_707 (by decide) ?_
  exact W.widen (by omega) (by omega) (hk L2 f2 fo2 (va_up i 0 x0_10) a _ _ _ (hI2.mo (by omega)) hP hD hS (lv_sub hl [2, 3, 4, 5, 6] rfl))

set_option maxHeartbeats 4000000 in
set_option maxRecDepth 100000 in
theorem lo_vat {p : Program} {l : Launch} {e : Env} {s : State} {m : MethodId} {below : List Frame} {meth : Method} {c : Code} {b Ln : Nat} {xs : Nat → Int32} (hlt : l.stackTraces = false) (C0 : lw_At p s m meth c b Ln xs) (hLn : Ln ≤ 3072) {dC : Nat → ClassId} {dI : Nat → Nat → Nat} {sa : Nat → Nat} (hev : ev sa (fun q : Nat => s.heap.size ≤ q) s s.heap) {x0 rdr tok tp ka sta vaa wk vs cl ru pl tvr tc rc m0 ou : Nat} {va tv : Nat → Nat} {co : ClassId} {g gm bm : Nat → Nat} (hK : va_K (dC, dI) vwCl (tyG g ++ [(co, .long)] ++ tyM gm) s) {L : List Nat} {f : Nat → va_E} {fo : Nat → Int64} {i : Nat → Int32} {a : Nat → Nat → Int32} {H : Heap} {locs : List Loc} {ls : Array Slot} {cells slots t : Nat} {ii : Int32} (hI : LI g ((x0, rdr, tok, tp, ka, sta, vaa), (wk, vs, cl, ru, va), (pl, tvr, tc, tv), rc) ((10000 * t : Nat) : Int) L f i a) (hP : va_P (dC, dI) vwCl ((va_pl L f ++ [(ou, .inl (co, 1, .inr (.inl fo)))]) ++ mw gm m0 bm i a) H) (hD : va_D (fun q : Nat => s.heap.size ≤ q) ((va_pl L f ++ [(ou, .inl (co, 1, .inr (.inl fo)))]) ++ mw gm m0 bm i a)) (hS : va_S (fun q : Nat => s.heap.size ≤ q) s.heap H locs) (hl : lv_has ls 7 [(4, .int ii), (3, .ref ou), (2, .ref m0), (1, .ref x0), (0, .ref b)]) (hii : ii = nI (6 * t)) (ht : 6 * t + 6 ≤ Ln) (hc : cells + 303 ≤ 601024) (hs : slots + 2415 ≤ 7293034) (hk : ∀ (L2 : List Nat) (f2 : Nat → va_E) (fo2 : Nat → Int64) (i2 : Nat → Int32) (a2 : Nat → Nat → Int32) (H : Heap) (locs : List Loc) (ls : Array Slot), LI g ((x0, rdr, tok, tp, ka, sta, vaa), (wk, vs, cl, ru, va), (pl, tvr, tc, tv), rc) ((10000 * (t + 1) : Nat) : Int) L2 f2 i2 a2 → va_P (dC, dI) vwCl ((va_pl L2 f2 ++ [(ou, .inl (co, 1, .inr (.inl fo2)))]) ++ mw gm m0 bm i2 a2) H → va_D (fun q : Nat => s.heap.size ≤ q) ((va_pl L2 f2 ++ [(ou, .inl (co, 1, .inr (.inl fo2)))]) ++ mw gm m0 bm i2 a2) → va_S (fun q : Nat => s.heap.size ≤ q) s.heap H locs → lv_has ls 7 [(4, .int ii), (3, .ref ou), (2, .ref m0), (1, .ref x0), (0, .ref b)] → W p l e room_1 s m #[Value.ref b] below meth c H locs (cells + 303) (slots + 2415) (lw_Z below #[Value.ref b] s) (F0 m 938 ls [])) : W p l e room_1 s m #[Value.ref b] below meth c H locs cells slots (lw_Z below #[Value.ref b] s) (F0 m 710 ls []) := by
  obtain ⟨hx, hb, hr, hml, hown, hts, hX, hbl, hlocks, hgv⟩ := id C0
  have hown : s.vm.findClass RL = some m.cls := hown
  have hA : ∀ q : Nat, s.heap.size ≤ q → (fun q : Nat => s.heap.size ≤ q) q := fun _ h => h
  have hbA : ¬ (fun q : Nat => s.heap.size ≤ q) b := Nat.not_le.mpr hbl
  obtain ⟨hT0, ⟨⟨hRF, tt, hCN, hag⟩, ⟨hSR, h7, hPL⟩, hTE⟩, hGI, ht2, hBI, hkp⟩ := id hI
  have hB9 : ((10000 * t : Nat) : Int) ≤ 9000000 := by omega
  refine lv_aload_n hx hb dL_law_710 rfl (lv_at hl 3 rfl) ?_
  refine lv_aload_n hx hb dL_law_711 rfl (lv_at hl 4 rfl) ?_
  refine lv_iload hx hb dL_law_712 (lv_at hl 0 rfl) ?_
  refine lv_iconst (v := 1) hx hb dL_law_714 (by decide) ?_
  refine lv_iadd hx hb dL_law_715 ?_
  refine lv_topi (fun z_1 ez_1 => ?_)
  refine va_sld hx hb hX hbl hbA hS (sc_in ez_1 hii (by decide : (1 : Int32) = nI 1) (by decide) ht hLn) dL_law_716 ?_
  refine lv_topi (fun z_2 ez_2 => ?_)
  refine lv_aload_n hx hb dL_law_717 rfl (lv_at hl 4 rfl) ?_
  refine lv_iload hx hb dL_law_718 (lv_at hl 0 rfl) ?_
  refine lv_iconst (v := 2) hx hb dL_law_720 (by decide) ?_
  refine lv_iadd hx hb dL_law_721 ?_
  refine lv_topi (fun z_3 ez_3 => ?_)
  refine va_sld hx hb hX hbl hbA hS (sc_in ez_3 hii (by decide : (2 : Int32) = nI 2) (by decide) ht hLn) dL_law_722 ?_
  refine lv_topi (fun z_4 ez_4 => ?_)
  refine lv_aload_n hx hb dL_law_723 rfl (lv_at hl 1 rfl) ?_
  refine NW_S (hh := [(0, 10, 13, 13)]) ⟨hx, hb, hml, hown, hts⟩ (wS_vat l dC dI sa g _ _ x0 ou co _ z_2 z_4 _ (hT0.sub [0] rfl) (fun sz => (t_X9_vatS l dC dI sa hlt g _ _ va (i, a) x0 z_2 z_4 wk vs cl ru sz (hT0.sub [0, 7, 8, 9, 10] rfl) hSR.1.2.1 hSR.1.2.2.2.2.1 hSR.1.2.2.1 hSR.1.2.2.2.1 hSR ⟨hGI.1.1, hGI.1.2.1, hGI.1.2.2.1, Int.le_trans hGI.1.2.2.2 hB9⟩)) (fun _ _ _ h9 => h9.1) (fun _ _ _ h9 => h9.1.1)) (vx_cwSW 4 hts gL_law_L_vat rfl rfl rfl (by decide +kernel) ⟨Nat.le_of_ble_eq_true rfl, Nat.le_of_ble_eq_true rfl⟩) hP hD (hK.sub [0, 1, 2, 3, 4, 5, 6, 7, 8, 9, 10, 11] rfl) hS hA hev rfl hl.1 rfl (Nat.le_of_ble_eq_true rfl) dL_law_724 ⟨by show _ + 2 ≤ 601024; omega, by show _ + 12 ≤ 7293034; omega⟩ (fun r u H locs hw hP hD hS => ?_)
  obtain ⟨⟨L2, f2⟩, fo2⟩ := u
  obtain ⟨hW2, hE2, hw⟩ := hw
  have hE2 : Ext L f L2 f2 := hE2
  have hco : CO g L f L2 f2 (x0, wk, vs, cl, ru, va) (vaS z_2 z_4 (i, a)) r (fo2 0) := co1 hSR hE2 (by decide) hw
  obtain ⟨z_5, rfl⟩ : ∃ z : Int32, r = some (.int z) := ⟨_, hco.1⟩
  have hP : va_P (dC, dI) vwCl ((va_pl L2 f2 ++ [(ou, .inl (co, 1, .inr (.inl fo2)))]) ++ mw gm m0 bm i a) _ := hP
  have hD : va_D _ ((va_pl L2 f2 ++ [(ou, .inl (co, 1, .inr (.inl fo2)))]) ++ mw gm m0 bm i a) := hD
  refine W.eq (g2 := F0 m 727 ls [.int z_5]) rfl ?_
  refine lv_istore (lv' := [(5, .int z_5), (4, .int ii), (3, .ref ou), (2, .ref m0), (1, .ref x0), (0, .ref b)]) hx hb dL_law_727 hl (by decide) rfl (fun ls hl => ?_)
  refine lv_aload_n hx hb dL_law_729 rfl (lv_at hl 3 rfl) ?_
  refine lv_aload_n hx hb dL_law_730 rfl (lv_at hl 5 rfl) ?_
  refine lv_iload hx hb dL_law_731 (lv_at hl 1 rfl) ?_
  refine lv_iconst (v := 1) hx hb dL_law_733 (by decide) ?_
  refine lv_iadd hx hb dL_law_734 ?_
  refine lv_topi (fun z_6 ez_6 => ?_)
  refine va_sld hx hb hX hbl hbA hS (sc_in ez_6 hii (by decide : (1 : Int32) = nI 1) (by decide) ht hLn) dL_law_735 ?_
  refine lv_topi (fun z_7 ez_7 => ?_)
  refine lv_aload_n hx hb dL_law_736 rfl (lv_at hl 5 rfl) ?_
  refine lv_iload hx hb dL_law_737 (lv_at hl 1 rfl) ?_
  refine lv_iconst (v := 2) hx hb dL_law_739 (by decide) ?_
  refine lv_iadd hx hb dL_law_740 ?_
  refine lv_topi (fun z_8 ez_8 => ?_)
  refine va_sld hx hb hX hbl hbA hS (sc_in ez_8 hii (by decide : (2 : Int32) = nI 2) (by decide) ht hLn) dL_law_741 ?_
  refine lv_topi (fun z_9 ez_9 => ?_)
  refine NV_V ⟨hx, hb, hml, hown, hts⟩ (m_X10_vatE l dC dI sa gm m0 bm i a z_7 z_9 _ ) (cwV 2 hts gL_law_X10_vat rfl rfl rfl (by decide +kernel) ⟨Nat.le_of_ble_eq_true rfl, Nat.le_of_ble_eq_true rfl⟩) hP hD (hK.sub [12, 13, 14, 15, 16, 17, 18, 19, 20, 21, 22, 23, 24, 25, 26, 27, 28, 29, 30, 31, 32, 33, 34, 35, 36, 37, 38, 39, 40] rfl) hS hA hev rfl rfl rfl rfl hl.1 rfl (Nat.le_of_ble_eq_true rfl) dL_law_742 ⟨by show _ + 0 ≤ 601024; omega, by show _ + 0 ≤ 7293034; omega⟩ (fun r u H locs hw hP hD hS => ?_)
  obtain ⟨x0_10, rfl⟩ : ∃ z, z = u := ⟨_, rfl⟩
  have hw : (∃ z : Int32, r = some (.int z)) ∧ (x0_10 = (vaS z_7 z_9 (i, a)).1 ∧ ((vaS z_7 z_9 (i, a)).1 = 0 → r = some (.int (vaS z_7 z_9 (i, a)).2.1))) := hw
  obtain ⟨⟨z_11, rfl⟩, hwP⟩ := hw
  have hab0 : z_7 = z_2 := by rw [ez_7, ez_6, ez_2, ez_1]
  have hab1 : z_9 = z_4 := by rw [ez_9, ez_8, ez_4, ez_3]
  rw [hab0, hab1] at hwP
  obtain ⟨hm0, hm1⟩ := hwP
  obtain ⟨hth, hout, hI2⟩ := both_op (K := []) (KA_ := []) (i2 := (va_up i 0 x0_10)) (a2 := a) hI hW2 hE2 hco (by rw [fx_va.id]; exact hGI) fx_va hm0 hm1 (Eqx.up (by decide) Eqx.rf) Eqx.rf (fun k hk => absurd hk (by simp)) (fun k hk => absurd hk (by simp)) (by decide) (by decide)
  have hP : va_P (dC, dI) vwCl ((va_pl L2 f2 ++ [(ou, .inl (co, 1, .inr (.inl fo2)))]) ++ mw gm m0 bm (va_up i 0 x0_10) a) _ := hP
  have hD : va_D _ ((va_pl L2 f2 ++ [(ou, .inl (co, 1, .inr (.inl fo2)))]) ++ mw gm m0 bm (va_up i 0 x0_10) a) := hD
  refine W.eq (g2 := F0 m 745 ls [.int z_11]) rfl ?_
  refine lv_istore (lv' := [(6, .int z_11), (5, .int z_5), (4, .int ii), (3, .ref ou), (2, .ref m0), (1, .ref x0), (0, .ref b)]) hx hb dL_law_745 hl (by decide) rfl (fun ls hl => ?_)
  refine lv_goto (tgt := 938) hx hb dL_law_747 (by decide) ?_
  exact W.widen (by omega) (by omega) (hk L2 f2 fo2 (va_up i 0 x0_10) a _ _ _ (hI2.mo (by omega)) hP hD hS (lv_sub hl [2, 3, 4, 5, 6] rfl))

set_option maxHeartbeats 4000000 in
set_option maxRecDepth 100000 in
theorem lo_about {p : Program} {l : Launch} {e : Env} {s : State} {m : MethodId} {below : List Frame} {meth : Method} {c : Code} {b Ln : Nat} {xs : Nat → Int32} (hlt : l.stackTraces = false) (C0 : lw_At p s m meth c b Ln xs) (hLn : Ln ≤ 3072) {dC : Nat → ClassId} {dI : Nat → Nat → Nat} {sa : Nat → Nat} (hev : ev sa (fun q : Nat => s.heap.size ≤ q) s s.heap) {x0 rdr tok tp ka sta vaa wk vs cl ru pl tvr tc rc m0 ou : Nat} {va tv : Nat → Nat} {co : ClassId} {g gm bm : Nat → Nat} (hK : va_K (dC, dI) vwCl (tyG g ++ [(co, .long)] ++ tyM gm) s) {L : List Nat} {f : Nat → va_E} {fo : Nat → Int64} {i : Nat → Int32} {a : Nat → Nat → Int32} {H : Heap} {locs : List Loc} {ls : Array Slot} {cells slots t : Nat} {ii : Int32} (hI : LI g ((x0, rdr, tok, tp, ka, sta, vaa), (wk, vs, cl, ru, va), (pl, tvr, tc, tv), rc) ((10000 * t : Nat) : Int) L f i a) (hP : va_P (dC, dI) vwCl ((va_pl L f ++ [(ou, .inl (co, 1, .inr (.inl fo)))]) ++ mw gm m0 bm i a) H) (hD : va_D (fun q : Nat => s.heap.size ≤ q) ((va_pl L f ++ [(ou, .inl (co, 1, .inr (.inl fo)))]) ++ mw gm m0 bm i a)) (hS : va_S (fun q : Nat => s.heap.size ≤ q) s.heap H locs) (hl : lv_has ls 7 [(4, .int ii), (3, .ref ou), (2, .ref m0), (1, .ref x0), (0, .ref b)]) (hii : ii = nI (6 * t)) (ht : 6 * t + 6 ≤ Ln) (hc : cells + 303 ≤ 601024) (hs : slots + 2415 ≤ 7293034) (hk : ∀ (L2 : List Nat) (f2 : Nat → va_E) (fo2 : Nat → Int64) (i2 : Nat → Int32) (a2 : Nat → Nat → Int32) (H : Heap) (locs : List Loc) (ls : Array Slot), LI g ((x0, rdr, tok, tp, ka, sta, vaa), (wk, vs, cl, ru, va), (pl, tvr, tc, tv), rc) ((10000 * (t + 1) : Nat) : Int) L2 f2 i2 a2 → va_P (dC, dI) vwCl ((va_pl L2 f2 ++ [(ou, .inl (co, 1, .inr (.inl fo2)))]) ++ mw gm m0 bm i2 a2) H → va_D (fun q : Nat => s.heap.size ≤ q) ((va_pl L2 f2 ++ [(ou, .inl (co, 1, .inr (.inl fo2)))]) ++ mw gm m0 bm i2 a2) → va_S (fun q : Nat => s.heap.size ≤ q) s.heap H locs → lv_has ls 7 [(4, .int ii), (3, .ref ou), (2, .ref m0), (1, .ref x0), (0, .ref b)] → W p l e room_1 s m #[Value.ref b] below meth c H locs (cells + 303) (slots + 2415) (lw_Z below #[Value.ref b] s) (F0 m 938 ls [])) : W p l e room_1 s m #[Value.ref b] below meth c H locs cells slots (lw_Z below #[Value.ref b] s) (F0 m 750 ls []) := by
  obtain ⟨hx, hb, hr, hml, hown, hts, hX, hbl, hlocks, hgv⟩ := id C0
  have hown : s.vm.findClass RL = some m.cls := hown
  have hA : ∀ q : Nat, s.heap.size ≤ q → (fun q : Nat => s.heap.size ≤ q) q := fun _ h => h
  have hbA : ¬ (fun q : Nat => s.heap.size ≤ q) b := Nat.not_le.mpr hbl
  obtain ⟨hT0, ⟨⟨hRF, tt, hCN, hag⟩, ⟨hSR, h7, hPL⟩, hTE⟩, hGI, ht2, hBI, hkp⟩ := id hI
  have hB9 : ((10000 * t : Nat) : Int) ≤ 9000000 := by omega
  refine lv_aload_n hx hb dL_law_750 rfl (lv_at hl 3 rfl) ?_
  refine lv_aload_n hx hb dL_law_751 rfl (lv_at hl 4 rfl) ?_
  refine lv_iload hx hb dL_law_752 (lv_at hl 0 rfl) ?_
  refine lv_iconst (v := 1) hx hb dL_law_754 (by decide) ?_
  refine lv_iadd hx hb dL_law_755 ?_
  refine lv_topi (fun z_1 ez_1 => ?_)
  refine va_sld hx hb hX hbl hbA hS (sc_in ez_1 hii (by decide : (1 : Int32) = nI 1) (by decide) ht hLn) dL_law_756 ?_
  refine lv_topi (fun z_2 ez_2 => ?_)
  refine lv_aload_n hx hb dL_law_757 rfl (lv_at hl 4 rfl) ?_
  refine lv_iload hx hb dL_law_758 (lv_at hl 0 rfl) ?_
  refine lv_iconst (v := 2) hx hb dL_law_760 (by decide) ?_
  refine lv_iadd hx hb dL_law_761 ?_
  refine lv_topi (fun z_3 ez_3 => ?_)
  refine va_sld hx hb hX hbl hbA hS (sc_in ez_3 hii (by decide : (2 : Int32) = nI 2) (by decide) ht hLn) dL_law_762 ?_
  refine lv_topi (fun z_4 ez_4 => ?_)
  refine lv_aload_n hx hb dL_law_763 rfl (lv_at hl 1 rfl) ?_
  refine NW_S (hh := [(0, 10, 13, 13)]) ⟨hx, hb, hml, hown, hts⟩ (wS_about l dC dI sa g _ _ x0 ou co _ z_2 z_4 _ (hT0.sub [0] rfl) (fun sz => (t_X9_aboutS l dC dI sa hlt g _ _ va (i, a) x0 z_2 z_4 wk vs cl ru sz (hT0.sub [0, 7, 8, 9, 10] rfl) hSR.1.2.1 hSR.1.2.2.2.2.1 hSR.1.2.2.1 hSR.1.2.2.2.1 hSR ⟨hGI.1.1, hGI.1.2.1, hGI.1.2.2.1, Int.le_trans hGI.1.2.2.2 hB9⟩)) (fun _ _ _ h9 => h9.1) (fun _ _ _ h9 => h9.1.1)) (vx_cwSW 4 hts gL_law_L_about rfl rfl rfl (by decide +kernel) ⟨Nat.le_of_ble_eq_true rfl, Nat.le_of_ble_eq_true rfl⟩) hP hD (hK.sub [0, 1, 2, 3, 4, 5, 6, 7, 8, 9, 10, 11] rfl) hS hA hev rfl hl.1 rfl (Nat.le_of_ble_eq_true rfl) dL_law_764 ⟨by show _ + 2 ≤ 601024; omega, by show _ + 12 ≤ 7293034; omega⟩ (fun r u H locs hw hP hD hS => ?_)
  obtain ⟨⟨L2, f2⟩, fo2⟩ := u
  obtain ⟨hW2, hE2, hw⟩ := hw
  have hE2 : Ext L f L2 f2 := hE2
  have hco : CO g L f L2 f2 (x0, wk, vs, cl, ru, va) (abS z_2 z_4 (i, a)) r (fo2 0) := co1 hSR hE2 (by decide) hw
  obtain ⟨z_5, rfl⟩ : ∃ z : Int32, r = some (.int z) := ⟨_, hco.1⟩
  have hP : va_P (dC, dI) vwCl ((va_pl L2 f2 ++ [(ou, .inl (co, 1, .inr (.inl fo2)))]) ++ mw gm m0 bm i a) _ := hP
  have hD : va_D _ ((va_pl L2 f2 ++ [(ou, .inl (co, 1, .inr (.inl fo2)))]) ++ mw gm m0 bm i a) := hD
  refine W.eq (g2 := F0 m 767 ls [.int z_5]) rfl ?_
  refine lv_istore (lv' := [(5, .int z_5), (4, .int ii), (3, .ref ou), (2, .ref m0), (1, .ref x0), (0, .ref b)]) hx hb dL_law_767 hl (by decide) rfl (fun ls hl => ?_)
  refine lv_aload_n hx hb dL_law_769 rfl (lv_at hl 3 rfl) ?_
  refine lv_aload_n hx hb dL_law_770 rfl (lv_at hl 5 rfl) ?_
  refine lv_iload hx hb dL_law_771 (lv_at hl 1 rfl) ?_
  refine lv_iconst (v := 1) hx hb dL_law_773 (by decide) ?_
  refine lv_iadd hx hb dL_law_774 ?_
  refine lv_topi (fun z_6 ez_6 => ?_)
  refine va_sld hx hb hX hbl hbA hS (sc_in ez_6 hii (by decide : (1 : Int32) = nI 1) (by decide) ht hLn) dL_law_775 ?_
  refine lv_topi (fun z_7 ez_7 => ?_)
  refine lv_aload_n hx hb dL_law_776 rfl (lv_at hl 5 rfl) ?_
  refine lv_iload hx hb dL_law_777 (lv_at hl 1 rfl) ?_
  refine lv_iconst (v := 2) hx hb dL_law_779 (by decide) ?_
  refine lv_iadd hx hb dL_law_780 ?_
  refine lv_topi (fun z_8 ez_8 => ?_)
  refine va_sld hx hb hX hbl hbA hS (sc_in ez_8 hii (by decide : (2 : Int32) = nI 2) (by decide) ht hLn) dL_law_781 ?_
  refine lv_topi (fun z_9 ez_9 => ?_)
  refine NV_V ⟨hx, hb, hml, hown, hts⟩ (m_X10_aboutE l dC dI sa gm m0 bm i a z_7 z_9 _ hGI.1.2.1) (cwV 2 hts gL_law_X10_about rfl rfl rfl (by decide +kernel) ⟨Nat.le_of_ble_eq_true rfl, Nat.le_of_ble_eq_true rfl⟩) hP hD (hK.sub [12, 13, 14, 15, 16, 17, 18, 19, 20, 21, 22, 23, 24, 25, 26, 27, 28, 29, 30, 31, 32, 33, 34, 35, 36, 37, 38, 39, 40] rfl) hS hA hev rfl rfl rfl rfl hl.1 rfl (Nat.le_of_ble_eq_true rfl) dL_law_782 ⟨by show _ + 0 ≤ 601024; omega, by show _ + 0 ≤ 7293034; omega⟩ (fun r u H locs hw hP hD hS => ?_)
  obtain ⟨x0_10, rfl⟩ : ∃ z, z = u := ⟨_, rfl⟩
  have hw : (∃ z : Int32, r = some (.int z)) ∧ (x0_10 = (abS z_7 z_9 (i, a)).1 ∧ ((abS z_7 z_9 (i, a)).1 = 0 → r = some (.int (abS z_7 z_9 (i, a)).2.1))) := hw
  obtain ⟨⟨z_11, rfl⟩, hwP⟩ := hw
  have hab0 : z_7 = z_2 := by rw [ez_7, ez_6, ez_2, ez_1]
  have hab1 : z_9 = z_4 := by rw [ez_9, ez_8, ez_4, ez_3]
  rw [hab0, hab1] at hwP
  obtain ⟨hm0, hm1⟩ := hwP
  obtain ⟨hth, hout, hI2⟩ := both_op (K := []) (KA_ := []) (i2 := (va_up i 0 x0_10)) (a2 := a) hI hW2 hE2 hco (by rw [fx_ab.id]; exact hGI) fx_ab hm0 hm1 (Eqx.up (by decide) Eqx.rf) Eqx.rf (fun k hk => absurd hk (by simp)) (fun k hk => absurd hk (by simp)) (by decide) (by decide)
  have hP : va_P (dC, dI) vwCl ((va_pl L2 f2 ++ [(ou, .inl (co, 1, .inr (.inl fo2)))]) ++ mw gm m0 bm (va_up i 0 x0_10) a) _ := hP
  have hD : va_D _ ((va_pl L2 f2 ++ [(ou, .inl (co, 1, .inr (.inl fo2)))]) ++ mw gm m0 bm (va_up i 0 x0_10) a) := hD
  refine W.eq (g2 := F0 m 785 ls [.int z_11]) rfl ?_
  refine lv_istore (lv' := [(6, .int z_11), (5, .int z_5), (4, .int ii), (3, .ref ou), (2, .ref m0), (1, .ref x0), (0, .ref b)]) hx hb dL_law_785 hl (by decide) rfl (fun ls hl => ?_)
  refine lv_goto (tgt := 938) hx hb dL_law_787 (by decide) ?_
  exact W.widen (by omega) (by omega) (hk L2 f2 fo2 (va_up i 0 x0_10) a _ _ _ (hI2.mo (by omega)) hP hD hS (lv_sub hl [2, 3, 4, 5, 6] rfl))

set_option maxHeartbeats 4000000 in
set_option maxRecDepth 100000 in
theorem lo_count {p : Program} {l : Launch} {e : Env} {s : State} {m : MethodId} {below : List Frame} {meth : Method} {c : Code} {b Ln : Nat} {xs : Nat → Int32} (hlt : l.stackTraces = false) (C0 : lw_At p s m meth c b Ln xs) (hLn : Ln ≤ 3072) {dC : Nat → ClassId} {dI : Nat → Nat → Nat} {sa : Nat → Nat} (hev : ev sa (fun q : Nat => s.heap.size ≤ q) s s.heap) {x0 rdr tok tp ka sta vaa wk vs cl ru pl tvr tc rc m0 ou : Nat} {va tv : Nat → Nat} {co : ClassId} {g gm bm : Nat → Nat} (hK : va_K (dC, dI) vwCl (tyG g ++ [(co, .long)] ++ tyM gm) s) {L : List Nat} {f : Nat → va_E} {fo : Nat → Int64} {i : Nat → Int32} {a : Nat → Nat → Int32} {H : Heap} {locs : List Loc} {ls : Array Slot} {cells slots t : Nat} {ii : Int32} (hI : LI g ((x0, rdr, tok, tp, ka, sta, vaa), (wk, vs, cl, ru, va), (pl, tvr, tc, tv), rc) ((10000 * t : Nat) : Int) L f i a) (hP : va_P (dC, dI) vwCl ((va_pl L f ++ [(ou, .inl (co, 1, .inr (.inl fo)))]) ++ mw gm m0 bm i a) H) (hD : va_D (fun q : Nat => s.heap.size ≤ q) ((va_pl L f ++ [(ou, .inl (co, 1, .inr (.inl fo)))]) ++ mw gm m0 bm i a)) (hS : va_S (fun q : Nat => s.heap.size ≤ q) s.heap H locs) (hl : lv_has ls 7 [(4, .int ii), (3, .ref ou), (2, .ref m0), (1, .ref x0), (0, .ref b)]) (hii : ii = nI (6 * t)) (ht : 6 * t + 6 ≤ Ln) (hc : cells + 303 ≤ 601024) (hs : slots + 2415 ≤ 7293034) (hk : ∀ (L2 : List Nat) (f2 : Nat → va_E) (fo2 : Nat → Int64) (i2 : Nat → Int32) (a2 : Nat → Nat → Int32) (H : Heap) (locs : List Loc) (ls : Array Slot), LI g ((x0, rdr, tok, tp, ka, sta, vaa), (wk, vs, cl, ru, va), (pl, tvr, tc, tv), rc) ((10000 * (t + 1) : Nat) : Int) L2 f2 i2 a2 → va_P (dC, dI) vwCl ((va_pl L2 f2 ++ [(ou, .inl (co, 1, .inr (.inl fo2)))]) ++ mw gm m0 bm i2 a2) H → va_D (fun q : Nat => s.heap.size ≤ q) ((va_pl L2 f2 ++ [(ou, .inl (co, 1, .inr (.inl fo2)))]) ++ mw gm m0 bm i2 a2) → va_S (fun q : Nat => s.heap.size ≤ q) s.heap H locs → lv_has ls 7 [(4, .int ii), (3, .ref ou), (2, .ref m0), (1, .ref x0), (0, .ref b)] → W p l e room_1 s m #[Value.ref b] below meth c H locs (cells + 303) (slots + 2415) (lw_Z below #[Value.ref b] s) (F0 m 938 ls [])) : W p l e room_1 s m #[Value.ref b] below meth c H locs cells slots (lw_Z below #[Value.ref b] s) (F0 m 790 ls []) := by
  obtain ⟨hx, hb, hr, hml, hown, hts, hX, hbl, hlocks, hgv⟩ := id C0
  have hown : s.vm.findClass RL = some m.cls := hown
  have hA : ∀ q : Nat, s.heap.size ≤ q → (fun q : Nat => s.heap.size ≤ q) q := fun _ h => h
  have hbA : ¬ (fun q : Nat => s.heap.size ≤ q) b := Nat.not_le.mpr hbl
  obtain ⟨hT0, ⟨⟨hRF, tt, hCN, hag⟩, ⟨hSR, h7, hPL⟩, hTE⟩, hGI, ht2, hBI, hkp⟩ := id hI
  have hB9 : ((10000 * t : Nat) : Int) ≤ 9000000 := by omega
  refine lv_aload_n hx hb dL_law_790 rfl (lv_at hl 3 rfl) ?_
  refine lv_aload_n hx hb dL_law_791 rfl (lv_at hl 4 rfl) ?_
  refine lv_iload hx hb dL_law_792 (lv_at hl 0 rfl) ?_
  refine lv_iconst (v := 1) hx hb dL_law_794 (by decide) ?_
  refine lv_iadd hx hb dL_law_795 ?_
  refine lv_topi (fun z_1 ez_1 => ?_)
  refine va_sld hx hb hX hbl hbA hS (sc_in ez_1 hii (by decide : (1 : Int32) = nI 1) (by decide) ht hLn) dL_law_796 ?_
  refine lv_topi (fun z_2 ez_2 => ?_)
  refine lv_aload_n hx hb dL_law_797 rfl (lv_at hl 1 rfl) ?_
  refine NW_S (hh := [(0, 9, 12, 13)]) ⟨hx, hb, hml, hown, hts⟩ (wS_count l dC dI sa g _ _ x0 ou co _ z_2 _ (hT0.sub [0] rfl) (fun sz => (t_X9_countS l dC dI sa hlt g _ _ va (i, a) x0 z_2 wk vs cl ru sz (hT0.sub [0, 7, 8, 9, 10] rfl) hSR.1.2.1 hSR.1.2.2.2.2.1 hSR.1.2.2.1 hSR.1.2.2.2.1 hSR ⟨hGI.1.1, hGI.1.2.1, hGI.1.2.2.1, Int.le_trans hGI.1.2.2.2 hB9⟩ hCN.1)) (fun _ _ _ h9 => h9.1) (fun _ _ _ h9 => h9.1.1)) (vx_cwSW 3 hts gL_law_L_count rfl rfl rfl (by decide +kernel) ⟨Nat.le_of_ble_eq_true rfl, Nat.le_of_ble_eq_true rfl⟩) hP hD (hK.sub [0, 1, 2, 3, 4, 5, 6, 7, 8, 9, 10, 11] rfl) hS hA hev rfl hl.1 rfl (Nat.le_of_ble_eq_true rfl) dL_law_798 ⟨by show _ + 1 ≤ 601024; omega, by show _ + 6 ≤ 7293034; omega⟩ (fun r u H locs hw hP hD hS => ?_)
  obtain ⟨⟨L2, f2⟩, fo2⟩ := u
  obtain ⟨hW2, hE2, hw⟩ := hw
  have hE2 : Ext L f L2 f2 := hE2
  have hco : CO g L f L2 f2 (x0, wk, vs, cl, ru, va) (ctS z_2 (i, a)) r (fo2 0) := co1 hSR hE2 (by decide) hw
  obtain ⟨z_3, rfl⟩ : ∃ z : Int32, r = some (.int z) := ⟨_, hco.1⟩
  have hP : va_P (dC, dI) vwCl ((va_pl L2 f2 ++ [(ou, .inl (co, 1, .inr (.inl fo2)))]) ++ mw gm m0 bm i a) _ := hP
  have hD : va_D _ ((va_pl L2 f2 ++ [(ou, .inl (co, 1, .inr (.inl fo2)))]) ++ mw gm m0 bm i a) := hD
  refine W.eq (g2 := F0 m 801 ls [.int z_3]) rfl ?_
  refine lv_istore (lv' := [(5, .int z_3), (4, .int ii), (3, .ref ou), (2, .ref m0), (1, .ref x0), (0, .ref b)]) hx hb dL_law_801 hl (by decide) rfl (fun ls hl => ?_)
  refine lv_aload_n hx hb dL_law_803 rfl (lv_at hl 3 rfl) ?_
  refine lv_aload_n hx hb dL_law_804 rfl (lv_at hl 5 rfl) ?_
  refine lv_iload hx hb dL_law_805 (lv_at hl 1 rfl) ?_
  refine lv_iconst (v := 1) hx hb dL_law_807 (by decide) ?_
  refine lv_iadd hx hb dL_law_808 ?_
  refine lv_topi (fun z_4 ez_4 => ?_)
  refine va_sld hx hb hX hbl hbA hS (sc_in ez_4 hii (by decide : (1 : Int32) = nI 1) (by decide) ht hLn) dL_law_809 ?_
  refine lv_topi (fun z_5 ez_5 => ?_)
  refine NV_V ⟨hx, hb, hml, hown, hts⟩ (m_X10_countE l dC dI sa gm m0 bm i a z_5 _ ) (cwV 1 hts gL_law_X10_count rfl rfl rfl (by decide +kernel) ⟨Nat.le_of_ble_eq_true rfl, Nat.le_of_ble_eq_true rfl⟩) hP hD (hK.sub [12, 13, 14, 15, 16, 17, 18, 19, 20, 21, 22, 23, 24, 25, 26, 27, 28, 29, 30, 31, 32, 33, 34, 35, 36, 37, 38, 39, 40] rfl) hS hA hev rfl rfl rfl rfl hl.1 rfl (Nat.le_of_ble_eq_true rfl) dL_law_810 ⟨by show _ + 0 ≤ 601024; omega, by show _ + 0 ≤ 7293034; omega⟩ (fun r u H locs hw hP hD hS => ?_)
  obtain ⟨x0_6, rfl⟩ : ∃ z, z = u := ⟨_, rfl⟩
  have hw : (∃ z : Int32, r = some (.int z)) ∧ (x0_6 = (ctS z_5 (i, a)).1 ∧ ((ctS z_5 (i, a)).1 = 0 → r = some (.int (ctS z_5 (i, a)).2.1))) := hw
  obtain ⟨⟨z_7, rfl⟩, hwP⟩ := hw
  have hab0 : z_5 = z_2 := by rw [ez_5, ez_4, ez_2, ez_1]
  rw [hab0] at hwP
  obtain ⟨hm0, hm1⟩ := hwP
  obtain ⟨hth, hout, hI2⟩ := both_op (K := []) (KA_ := []) (i2 := (va_up i 0 x0_6)) (a2 := a) hI hW2 hE2 hco (by rw [fx_ct.id]; exact hGI) fx_ct hm0 hm1 (Eqx.up (by decide) Eqx.rf) Eqx.rf (fun k hk => absurd hk (by simp)) (fun k hk => absurd hk (by simp)) (by decide) (by decide)
  have hP : va_P (dC, dI) vwCl ((va_pl L2 f2 ++ [(ou, .inl (co, 1, .inr (.inl fo2)))]) ++ mw gm m0 bm (va_up i 0 x0_6) a) _ := hP
  have hD : va_D _ ((va_pl L2 f2 ++ [(ou, .inl (co, 1, .inr (.inl fo2)))]) ++ mw gm m0 bm (va_up i 0 x0_6) a) := hD
  refine W.eq (g2 := F0 m 813 ls [.int z_7]) rfl ?_
  refine lv_istore (lv' := [(6, .int z_7), (5, .int z_3), (4, .int ii), (3, .ref ou), (2, .ref m0), (1, .ref x0), (0, .ref b)]) hx hb dL_law_813 hl (by decide) rfl (fun ls hl => ?_)
  refine lv_goto (tgt := 938) hx hb dL_law_815 (by decide) ?_
  exact W.widen (by omega) (by omega) (hk L2 f2 fo2 (va_up i 0 x0_6) a _ _ _ (hI2.mo (by omega)) hP hD hS (lv_sub hl [2, 3, 4, 5, 6] rfl))

set_option maxHeartbeats 4000000 in
set_option maxRecDepth 100000 in
theorem lo_faded {p : Program} {l : Launch} {e : Env} {s : State} {m : MethodId} {below : List Frame} {meth : Method} {c : Code} {b Ln : Nat} {xs : Nat → Int32} (hlt : l.stackTraces = false) (C0 : lw_At p s m meth c b Ln xs) (hLn : Ln ≤ 3072) {dC : Nat → ClassId} {dI : Nat → Nat → Nat} {sa : Nat → Nat} (hev : ev sa (fun q : Nat => s.heap.size ≤ q) s s.heap) {x0 rdr tok tp ka sta vaa wk vs cl ru pl tvr tc rc m0 ou : Nat} {va tv : Nat → Nat} {co : ClassId} {g gm bm : Nat → Nat} (hK : va_K (dC, dI) vwCl (tyG g ++ [(co, .long)] ++ tyM gm) s) {L : List Nat} {f : Nat → va_E} {fo : Nat → Int64} {i : Nat → Int32} {a : Nat → Nat → Int32} {H : Heap} {locs : List Loc} {ls : Array Slot} {cells slots t : Nat} {ii : Int32} (hI : LI g ((x0, rdr, tok, tp, ka, sta, vaa), (wk, vs, cl, ru, va), (pl, tvr, tc, tv), rc) ((10000 * t : Nat) : Int) L f i a) (hP : va_P (dC, dI) vwCl ((va_pl L f ++ [(ou, .inl (co, 1, .inr (.inl fo)))]) ++ mw gm m0 bm i a) H) (hD : va_D (fun q : Nat => s.heap.size ≤ q) ((va_pl L f ++ [(ou, .inl (co, 1, .inr (.inl fo)))]) ++ mw gm m0 bm i a)) (hS : va_S (fun q : Nat => s.heap.size ≤ q) s.heap H locs) (hl : lv_has ls 7 [(4, .int ii), (3, .ref ou), (2, .ref m0), (1, .ref x0), (0, .ref b)]) (hii : ii = nI (6 * t)) (ht : 6 * t + 6 ≤ Ln) (hc : cells + 303 ≤ 601024) (hs : slots + 2415 ≤ 7293034) (hk : ∀ (L2 : List Nat) (f2 : Nat → va_E) (fo2 : Nat → Int64) (i2 : Nat → Int32) (a2 : Nat → Nat → Int32) (H : Heap) (locs : List Loc) (ls : Array Slot), LI g ((x0, rdr, tok, tp, ka, sta, vaa), (wk, vs, cl, ru, va), (pl, tvr, tc, tv), rc) ((10000 * (t + 1) : Nat) : Int) L2 f2 i2 a2 → va_P (dC, dI) vwCl ((va_pl L2 f2 ++ [(ou, .inl (co, 1, .inr (.inl fo2)))]) ++ mw gm m0 bm i2 a2) H → va_D (fun q : Nat => s.heap.size ≤ q) ((va_pl L2 f2 ++ [(ou, .inl (co, 1, .inr (.inl fo2)))]) ++ mw gm m0 bm i2 a2) → va_S (fun q : Nat => s.heap.size ≤ q) s.heap H locs → lv_has ls 7 [(4, .int ii), (3, .ref ou), (2, .ref m0), (1, .ref x0), (0, .ref b)] → W p l e room_1 s m #[Value.ref b] below meth c H locs (cells + 303) (slots + 2415) (lw_Z below #[Value.ref b] s) (F0 m 938 ls [])) : W p l e room_1 s m #[Value.ref b] below meth c H locs cells slots (lw_Z below #[Value.ref b] s) (F0 m 818 ls []) := by
  obtain ⟨hx, hb, hr, hml, hown, hts, hX, hbl, hlocks, hgv⟩ := id C0
  have hown : s.vm.findClass RL = some m.cls := hown
  have hA : ∀ q : Nat, s.heap.size ≤ q → (fun q : Nat => s.heap.size ≤ q) q := fun _ h => h
  have hbA : ¬ (fun q : Nat => s.heap.size ≤ q) b := Nat.not_le.mpr hbl
  obtain ⟨hT0, ⟨⟨hRF, tt, hCN, hag⟩, ⟨hSR, h7, hPL⟩, hTE⟩, hGI, ht2, hBI, hkp⟩ := id hI
  have hB9 : ((10000 * t : Nat) : Int) ≤ 9000000 := by omega
  refine lv_aload_n hx hb dL_law_818 rfl (lv_at hl 3 rfl) ?_
  refine lv_aload_n hx hb dL_law_819 rfl (lv_at hl 4 rfl) ?_
  refine lv_iload hx hb dL_law_820 (lv_at hl 0 rfl) ?_
  refine lv_iconst (v := 1) hx hb dL_law_822 (by decide) ?_
  refine lv_iadd hx hb dL_law_823 ?_
  refine lv_topi (fun z_1 ez_1 => ?_)
  refine va_sld hx hb hX hbl hbA hS (sc_in ez_1 hii (by decide : (1 : Int32) = nI 1) (by decide) ht hLn) dL_law_824 ?_
  refine lv_topi (fun z_2 ez_2 => ?_)
  refine lv_aload_n hx hb dL_law_825 rfl (lv_at hl 4 rfl) ?_
  refine lv_iload hx hb dL_law_826 (lv_at hl 0 rfl) ?_
  refine lv_iconst (v := 2) hx hb dL_law_828 (by decide) ?_
  refine lv_iadd hx hb dL_law_829 ?_
  refine lv_topi (fun z_3 ez_3 => ?_)
  refine va_sld hx hb hX hbl hbA hS (sc_in ez_3 hii (by decide : (2 : Int32) = nI 2) (by decide) ht hLn) dL_law_830 ?_
  refine lv_topi (fun z_4 ez_4 => ?_)
  refine lv_aload_n hx hb dL_law_831 rfl (lv_at hl 4 rfl) ?_
  refine lv_iload hx hb dL_law_832 (lv_at hl 0 rfl) ?_
  refine lv_iconst (v := 3) hx hb dL_law_834 (by decide) ?_
  refine lv_iadd hx hb dL_law_835 ?_
  refine lv_topi (fun z_5 ez_5 => ?_)
  refine va_sld hx hb hX hbl hbA hS (sc_in ez_5 hii (by decide : (3 : Int32) = nI 3) (by decide) ht hLn) dL_law_836 ?_
  refine lv_topi (fun z_6 ez_6 => ?_)
  refine lv_aload_n hx hb dL_law_837 rfl (lv_at hl 1 rfl) ?_
  refine NW_S (hh := [(0, 12, 15, 13), (0, 12, 19, 18)]) ⟨hx, hb, hml, hown, hts⟩ (wS_faded l dC dI sa g _ _ x0 ou co _ z_2 z_4 z_6 _ (hT0.sub [0] rfl) (fun sz => (t_X9_fadedS l dC dI sa hlt g _ _ va (i, a) x0 z_2 z_4 z_6 wk vs cl ru sz (hT0.sub [0, 7, 8, 9, 10] rfl) hSR.1.2.1 hSR.1.2.2.2.2.1 hSR.1.2.2.1 hSR.1.2.2.2.1 hSR ⟨hGI.1.1, hGI.1.2.1, hGI.1.2.2.1, Int.le_trans hGI.1.2.2.2 hB9⟩)) (fun _ _ _ h9 => h9.1) (fun _ _ _ h9 => h9.1.imp (fun q9 => q9.1) (fun q9 => q9.1))) (vx_cwSW 5 hts gL_law_L_faded rfl rfl rfl (by decide +kernel) ⟨Nat.le_of_ble_eq_true rfl, Nat.le_of_ble_eq_true rfl⟩) hP hD (hK.sub [0, 1, 2, 3, 4, 5, 6, 7, 8, 9, 10, 11] rfl) hS hA hev rfl hl.1 rfl (Nat.le_of_ble_eq_true rfl) dL_law_838 ⟨by show _ + 2 ≤ 601024; omega, by show _ + 12 ≤ 7293034; omega⟩ (fun r u H locs hw hP hD hS => ?_)
  obtain ⟨⟨L2, f2⟩, fo2⟩ := u
  obtain ⟨hW2, hE2, hw⟩ := hw
  have hE2 : Ext L f L2 f2 := hE2
  have hco : CO g L f L2 f2 (x0, wk, vs, cl, ru, va) (faS z_2 z_4 z_6 (i, a)) r (fo2 0) := co2 hSR hE2 (by decide) (by decide) (by decide) hw
  obtain ⟨z_7, rfl⟩ : ∃ z : Int32, r = some (.int z) := ⟨_, hco.1⟩
  have hP : va_P (dC, dI) vwCl ((va_pl L2 f2 ++ [(ou, .inl (co, 1, .inr (.inl fo2)))]) ++ mw gm m0 bm i a) _ := hP
  have hD : va_D _ ((va_pl L2 f2 ++ [(ou, .inl (co, 1, .inr (.inl fo2)))]) ++ mw gm m0 bm i a) := hD
  refine W.eq (g2 := F0 m 841 ls [.int z_7]) rfl ?_
  refine lv_istore (lv' := [(5, .int z_7), (4, .int ii), (3, .ref ou), (2, .ref m0), (1, .ref x0), (0, .ref b)]) hx hb dL_law_841 hl (by decide) rfl (fun ls hl => ?_)
  refine lv_aload_n hx hb dL_law_843 rfl (lv_at hl 3 rfl) ?_
  refine lv_aload_n hx hb dL_law_844 rfl (lv_at hl 5 rfl) ?_
  refine lv_iload hx hb dL_law_845 (lv_at hl 1 rfl) ?_
  refine lv_iconst (v := 1) hx hb dL_law_847 (by decide) ?_
  refine lv_iadd hx hb dL_law_848 ?_
  refine lv_topi (fun z_8 ez_8 => ?_)
  refine va_sld hx hb hX hbl hbA hS (sc_in ez_8 hii (by decide : (1 : Int32) = nI 1) (by decide) ht hLn) dL_law_849 ?_
  refine lv_topi (fun z_9 ez_9 => ?_)
  refine lv_aload_n hx hb dL_law_850 rfl (lv_at hl 5 rfl) ?_
  refine lv_iload hx hb dL_law_851 (lv_at hl 1 rfl) ?_
  refine lv_iconst (v := 2) hx hb dL_law_853 (by decide) ?_
  refine lv_iadd hx hb dL_law_854 ?_
  refine lv_topi (fun z_10 ez_10 => ?_)
  refine va_sld hx hb hX hbl hbA hS (sc_in ez_10 hii (by decide : (2 : Int32) = nI 2) (by decide) ht hLn) dL_law_855 ?_
  refine lv_topi (fun z_11 ez_11 => ?_)
  refine lv_aload_n hx hb dL_law_856 rfl (lv_at hl 5 rfl) ?_
  refine lv_iload hx hb dL_law_857 (lv_at hl 1 rfl) ?_
  refine lv_iconst (v := 3) hx hb dL_law_859 (by decide) ?_
  refine lv_iadd hx hb dL_law_860 ?_
  refine lv_topi (fun z_12 ez_12 => ?_)
  refine va_sld hx hb hX hbl hbA hS (sc_in ez_12 hii (by decide : (3 : Int32) = nI 3) (by decide) ht hLn) dL_law_861 ?_
  refine lv_topi (fun z_13 ez_13 => ?_)
  refine NV_V ⟨hx, hb, hml, hown, hts⟩ (m_X10_fadedE l dC dI sa gm m0 bm i a z_9 z_11 z_13 _ hGI.1.2.1) (cwV 3 hts gL_law_X10_faded rfl rfl rfl (by decide +kernel) ⟨Nat.le_of_ble_eq_true rfl, Nat.le_of_ble_eq_true rfl⟩) hP hD (hK.sub [12, 13, 14, 15, 16, 17, 18, 19, 20, 21, 22, 23, 24, 25, 26, 27, 28, 29, 30, 31, 32, 33, 34, 35, 36, 37, 38, 39, 40] rfl) hS hA hev rfl rfl rfl rfl hl.1 rfl (Nat.le_of_ble_eq_true rfl) dL_law_862 ⟨by show _ + 0 ≤ 601024; omega, by show _ + 0 ≤ 7293034; omega⟩ (fun r u H locs hw hP hD hS => ?_)
  obtain ⟨x0_14, rfl⟩ : ∃ z, z = u := ⟨_, rfl⟩
  have hw : (∃ z : Int32, r = some (.int z)) ∧ (x0_14 = (faS z_9 z_11 z_13 (i, a)).1 ∧ ((faS z_9 z_11 z_13 (i, a)).1 = 0 → r = some (.int (faS z_9 z_11 z_13 (i, a)).2.1))) := hw
  obtain ⟨⟨z_15, rfl⟩, hwP⟩ := hw
  have hab0 : z_9 = z_2 := by rw [ez_9, ez_8, ez_2, ez_1]
  have hab1 : z_11 = z_4 := by rw [ez_11, ez_10, ez_4, ez_3]
  have hab2 : z_13 = z_6 := by rw [ez_13, ez_12, ez_6, ez_5]
  rw [hab0, hab1, hab2] at hwP
  obtain ⟨hm0, hm1⟩ := hwP
  obtain ⟨hth, hout, hI2⟩ := both_op (K := []) (KA_ := []) (i2 := (va_up i 0 x0_14)) (a2 := a) hI hW2 hE2 hco (by rw [fx_fa.id]; exact hGI) fx_fa hm0 hm1 (Eqx.up (by decide) Eqx.rf) Eqx.rf (fun k hk => absurd hk (by simp)) (fun k hk => absurd hk (by simp)) (by decide) (by decide)
  have hP : va_P (dC, dI) vwCl ((va_pl L2 f2 ++ [(ou, .inl (co, 1, .inr (.inl fo2)))]) ++ mw gm m0 bm (va_up i 0 x0_14) a) _ := hP
  have hD : va_D _ ((va_pl L2 f2 ++ [(ou, .inl (co, 1, .inr (.inl fo2)))]) ++ mw gm m0 bm (va_up i 0 x0_14) a) := hD
  refine W.eq (g2 := F0 m 865 ls [.int z_15]) rfl ?_
  refine lv_istore (lv' := [(6, .int z_15), (5, .int z_7), (4, .int ii), (3, .ref ou), (2, .ref m0), (1, .ref x0), (0, .ref b)]) hx hb dL_law_865 hl (by decide) rfl (fun ls hl => ?_)
  refine lv_goto (tgt := 938) hx hb dL_law_867 (by decide) ?_
  exact W.widen (by omega) (by omega) (hk L2 f2 fo2 (va_up i 0 x0_14) a _ _ _ (hI2.mo (by omega)) hP hD hS (lv_sub hl [2, 3, 4, 5, 6] rfl))

set_option maxHeartbeats 4000000 in
set_option maxRecDepth 100000 in
theorem lo_matching {p : Program} {l : Launch} {e : Env} {s : State} {m : MethodId} {below : List Frame} {meth : Method} {c : Code} {b Ln : Nat} {xs : Nat → Int32} (hlt : l.stackTraces = false) (C0 : lw_At p s m meth c b Ln xs) (hLn : Ln ≤ 3072) {dC : Nat → ClassId} {dI : Nat → Nat → Nat} {sa : Nat → Nat} (hev : ev sa (fun q : Nat => s.heap.size ≤ q) s s.heap) {x0 rdr tok tp ka sta vaa wk vs cl ru pl tvr tc rc m0 ou : Nat} {va tv : Nat → Nat} {co : ClassId} {g gm bm : Nat → Nat} (hK : va_K (dC, dI) vwCl (tyG g ++ [(co, .long)] ++ tyM gm) s) {L : List Nat} {f : Nat → va_E} {fo : Nat → Int64} {i : Nat → Int32} {a : Nat → Nat → Int32} {H : Heap} {locs : List Loc} {ls : Array Slot} {cells slots t : Nat} {ii : Int32} (hI : LI g ((x0, rdr, tok, tp, ka, sta, vaa), (wk, vs, cl, ru, va), (pl, tvr, tc, tv), rc) ((10000 * t : Nat) : Int) L f i a) (hP : va_P (dC, dI) vwCl ((va_pl L f ++ [(ou, .inl (co, 1, .inr (.inl fo)))]) ++ mw gm m0 bm i a) H) (hD : va_D (fun q : Nat => s.heap.size ≤ q) ((va_pl L f ++ [(ou, .inl (co, 1, .inr (.inl fo)))]) ++ mw gm m0 bm i a)) (hS : va_S (fun q : Nat => s.heap.size ≤ q) s.heap H locs) (hl : lv_has ls 7 [(4, .int ii), (3, .ref ou), (2, .ref m0), (1, .ref x0), (0, .ref b)]) (hii : ii = nI (6 * t)) (ht : 6 * t + 6 ≤ Ln) (hc : cells + 303 ≤ 601024) (hs : slots + 2415 ≤ 7293034) (hk : ∀ (L2 : List Nat) (f2 : Nat → va_E) (fo2 : Nat → Int64) (i2 : Nat → Int32) (a2 : Nat → Nat → Int32) (H : Heap) (locs : List Loc) (ls : Array Slot), LI g ((x0, rdr, tok, tp, ka, sta, vaa), (wk, vs, cl, ru, va), (pl, tvr, tc, tv), rc) ((10000 * (t + 1) : Nat) : Int) L2 f2 i2 a2 → va_P (dC, dI) vwCl ((va_pl L2 f2 ++ [(ou, .inl (co, 1, .inr (.inl fo2)))]) ++ mw gm m0 bm i2 a2) H → va_D (fun q : Nat => s.heap.size ≤ q) ((va_pl L2 f2 ++ [(ou, .inl (co, 1, .inr (.inl fo2)))]) ++ mw gm m0 bm i2 a2) → va_S (fun q : Nat => s.heap.size ≤ q) s.heap H locs → lv_has ls 7 [(4, .int ii), (3, .ref ou), (2, .ref m0), (1, .ref x0), (0, .ref b)] → W p l e room_1 s m #[Value.ref b] below meth c H locs (cells + 303) (slots + 2415) (lw_Z below #[Value.ref b] s) (F0 m 938 ls [])) : W p l e room_1 s m #[Value.ref b] below meth c H locs cells slots (lw_Z below #[Value.ref b] s) (F0 m 870 ls []) := by
  obtain ⟨hx, hb, hr, hml, hown, hts, hX, hbl, hlocks, hgv⟩ := id C0
  have hown : s.vm.findClass RL = some m.cls := hown
  have hA : ∀ q : Nat, s.heap.size ≤ q → (fun q : Nat => s.heap.size ≤ q) q := fun _ h => h
  have hbA : ¬ (fun q : Nat => s.heap.size ≤ q) b := Nat.not_le.mpr hbl
  obtain ⟨hT0, ⟨⟨hRF, tt, hCN, hag⟩, ⟨hSR, h7, hPL⟩, hTE⟩, hGI, ht2, hBI, hkp⟩ := id hI
  have hB9 : ((10000 * t : Nat) : Int) ≤ 9000000 := by omega
  refine lv_aload_n hx hb dL_law_870 rfl (lv_at hl 3 rfl) ?_
  refine lv_aload_n hx hb dL_law_871 rfl (lv_at hl 4 rfl) ?_
  refine lv_iload hx hb dL_law_872 (lv_at hl 0 rfl) ?_
  refine lv_iconst (v := 1) hx hb dL_law_874 (by decide) ?_
  refine lv_iadd hx hb dL_law_875 ?_
  refine lv_topi (fun z_1 ez_1 => ?_)
  refine va_sld hx hb hX hbl hbA hS (sc_in ez_1 hii (by decide : (1 : Int32) = nI 1) (by decide) ht hLn) dL_law_876 ?_
  refine lv_topi (fun z_2 ez_2 => ?_)
  refine lv_aload_n hx hb dL_law_877 rfl (lv_at hl 4 rfl) ?_
  refine lv_iload hx hb dL_law_878 (lv_at hl 0 rfl) ?_
  refine lv_iconst (v := 2) hx hb dL_law_880 (by decide) ?_
  refine lv_iadd hx hb dL_law_881 ?_
  refine lv_topi (fun z_3 ez_3 => ?_)
  refine va_sld hx hb hX hbl hbA hS (sc_in ez_3 hii (by decide : (2 : Int32) = nI 2) (by decide) ht hLn) dL_law_882 ?_
  refine lv_topi (fun z_4 ez_4 => ?_)
  refine lv_aload_n hx hb dL_law_883 rfl (lv_at hl 1 rfl) ?_
  refine NW_S (hh := [(0, 10, 13, 13), (0, 10, 17, 18)]) ⟨hx, hb, hml, hown, hts⟩ (wS_matching l dC dI sa g _ _ x0 ou co _ z_2 z_4 _ (hT0.sub [0] rfl) (fun sz => (t_X9_matchingS l dC dI sa hlt g _ _ va (i, a) x0 z_2 z_4 wk vs cl ru sz (hT0.sub [0, 7, 8, 9, 10] rfl) hSR.1.2.1 hSR.1.2.2.2.2.1 hSR.1.2.2.1 hSR.1.2.2.2.1 hSR ⟨hGI.1.1, hGI.1.2.1, hGI.1.2.2.1, Int.le_trans hGI.1.2.2.2 hB9⟩)) (fun _ _ _ h9 => h9.1) (fun _ _ _ h9 => h9.1.imp (fun q9 => q9.1) (fun q9 => q9.1))) (vx_cwSW 4 hts gL_law_L_matching rfl rfl rfl (by decide +kernel) ⟨Nat.le_of_ble_eq_true rfl, Nat.le_of_ble_eq_true rfl⟩) hP hD (hK.sub [0, 1, 2, 3, 4, 5, 6, 7, 8, 9, 10, 11] rfl) hS hA hev rfl hl.1 rfl (Nat.le_of_ble_eq_true rfl) dL_law_884 ⟨by show _ + 2 ≤ 601024; omega, by show _ + 12 ≤ 7293034; omega⟩ (fun r u H locs hw hP hD hS => ?_)
  obtain ⟨⟨L2, f2⟩, fo2⟩ := u
  obtain ⟨hW2, hE2, hw⟩ := hw
  have hE2 : Ext L f L2 f2 := hE2
  have hco : CO g L f L2 f2 (x0, wk, vs, cl, ru, va) (maS z_2 z_4 (i, a)) r (fo2 0) := co2 hSR hE2 (by decide) (by decide) (by decide) hw
  obtain ⟨z_5, rfl⟩ : ∃ z : Int32, r = some (.int z) := ⟨_, hco.1⟩
  have hP : va_P (dC, dI) vwCl ((va_pl L2 f2 ++ [(ou, .inl (co, 1, .inr (.inl fo2)))]) ++ mw gm m0 bm i a) _ := hP
  have hD : va_D _ ((va_pl L2 f2 ++ [(ou, .inl (co, 1, .inr (.inl fo2)))]) ++ mw gm m0 bm i a) := hD
  refine W.eq (g2 := F0 m 887 ls [.int z_5]) rfl ?_
  refine lv_istore (lv' := [(5, .int z_5), (4, .int ii), (3, .ref ou), (2, .ref m0), (1, .ref x0), (0, .ref b)]) hx hb dL_law_887 hl (by decide) rfl (fun ls hl => ?_)
  refine lv_aload_n hx hb dL_law_889 rfl (lv_at hl 3 rfl) ?_
  refine lv_aload_n hx hb dL_law_890 rfl (lv_at hl 5 rfl) ?_
  refine lv_iload hx hb dL_law_891 (lv_at hl 1 rfl) ?_
  refine lv_iconst (v := 1) hx hb dL_law_893 (by decide) ?_
  refine lv_iadd hx hb dL_law_894 ?_
  refine lv_topi (fun z_6 ez_6 => ?_)
  refine va_sld hx hb hX hbl hbA hS (sc_in ez_6 hii (by decide : (1 : Int32) = nI 1) (by decide) ht hLn) dL_law_895 ?_
  refine lv_topi (fun z_7 ez_7 => ?_)
  refine lv_aload_n hx hb dL_law_896 rfl (lv_at hl 5 rfl) ?_
  refine lv_iload hx hb dL_law_897 (lv_at hl 1 rfl) ?_
  refine lv_iconst (v := 2) hx hb dL_law_899 (by decide) ?_
  refine lv_iadd hx hb dL_law_900 ?_
  refine lv_topi (fun z_8 ez_8 => ?_)
  refine va_sld hx hb hX hbl hbA hS (sc_in ez_8 hii (by decide : (2 : Int32) = nI 2) (by decide) ht hLn) dL_law_901 ?_
  refine lv_topi (fun z_9 ez_9 => ?_)
  refine NV_V ⟨hx, hb, hml, hown, hts⟩ (m_X10_matchingE l dC dI sa gm m0 bm i a z_7 z_9 _ hGI.1.2.1) (cwV 2 hts gL_law_X10_matching rfl rfl rfl (by decide +kernel) ⟨Nat.le_of_ble_eq_true rfl, Nat.le_of_ble_eq_true rfl⟩) hP hD (hK.sub [12, 13, 14, 15, 16, 17, 18, 19, 20, 21, 22, 23, 24, 25, 26, 27, 28, 29, 30, 31, 32, 33, 34, 35, 36, 37, 38, 39, 40] rfl) hS hA hev rfl rfl rfl rfl hl.1 rfl (Nat.le_of_ble_eq_true rfl) dL_law_902 ⟨by show _ + 0 ≤ 601024; omega, by show _ + 0 ≤ 7293034; omega⟩ (fun r u H locs hw hP hD hS => ?_)
  obtain ⟨x0_10, rfl⟩ : ∃ z, z = u := ⟨_, rfl⟩
  have hw : (∃ z : Int32, r = some (.int z)) ∧ (x0_10 = (maS z_7 z_9 (i, a)).1 ∧ ((maS z_7 z_9 (i, a)).1 = 0 → r = some (.int (maS z_7 z_9 (i, a)).2.1))) := hw
  obtain ⟨⟨z_11, rfl⟩, hwP⟩ := hw
  have hab0 : z_7 = z_2 := by rw [ez_7, ez_6, ez_2, ez_1]
  have hab1 : z_9 = z_4 := by rw [ez_9, ez_8, ez_4, ez_3]
  rw [hab0, hab1] at hwP
  obtain ⟨hm0, hm1⟩ := hwP
  obtain ⟨hth, hout, hI2⟩ := both_op (K := []) (KA_ := []) (i2 := (va_up i 0 x0_10)) (a2 := a) hI hW2 hE2 hco (by rw [fx_ma.id]; exact hGI) fx_ma hm0 hm1 (Eqx.up (by decide) Eqx.rf) Eqx.rf (fun k hk => absurd hk (by simp)) (fun k hk => absurd hk (by simp)) (by decide) (by decide)
  have hP : va_P (dC, dI) vwCl ((va_pl L2 f2 ++ [(ou, .inl (co, 1, .inr (.inl fo2)))]) ++ mw gm m0 bm (va_up i 0 x0_10) a) _ := hP
  have hD : va_D _ ((va_pl L2 f2 ++ [(ou, .inl (co, 1, .inr (.inl fo2)))]) ++ mw gm m0 bm (va_up i 0 x0_10) a) := hD
  refine W.eq (g2 := F0 m 905 ls [.int z_11]) rfl ?_
  refine lv_istore (lv' := [(6, .int z_11), (5, .int z_5), (4, .int ii), (3, .ref ou), (2, .ref m0), (1, .ref x0), (0, .ref b)]) hx hb dL_law_905 hl (by decide) rfl (fun ls hl => ?_)
  refine lv_aload_n hx hb dL_law_907 rfl (lv_at hl 4 rfl) ?_
  refine NV_V ⟨hx, hb, hml, hown, hts⟩ (m_X10_thrownX l dC dI sa gm m0 bm (va_up i 0 x0_10) a  _ ) (cwV 0 hts gL_law_X10_thrown rfl rfl rfl (by decide +kernel) ⟨Nat.le_of_ble_eq_true rfl, Nat.le_of_ble_eq_true rfl⟩) hP hD (hK.sub [12, 13, 14, 15, 16, 17, 18, 19, 20, 21, 22, 23, 24, 25, 26, 27, 28, 29, 30, 31, 32, 33, 34, 35, 36, 37, 38, 39, 40] rfl) hS hA hev rfl rfl rfl rfl hl.1 rfl (Nat.le_of_ble_eq_true rfl) dL_law_908 ⟨by show _ + 0 ≤ 601024; omega, by show _ + 0 ≤ 7293034; omega⟩ (fun r u H locs hw hP hD hS => ?_)
  have hw : (∃ z : Int32, r = some (.int z) ∧ (z = x0_10)) ∧ (True) := hw
  obtain ⟨⟨z_12, rfl, hz⟩, -⟩ := hw
  have hP : va_P (dC, dI) vwCl ((va_pl L2 f2 ++ [(ou, .inl (co, 1, .inr (.inl fo2)))]) ++ mw gm m0 bm (va_up i 0 x0_10) a) _ := hP
  have hD : va_D _ ((va_pl L2 f2 ++ [(ou, .inl (co, 1, .inr (.inl fo2)))]) ++ mw gm m0 bm (va_up i 0 x0_10) a) := hD
  refine W.eq (g2 := F0 m 911 ls [.int z_12]) rfl ?_
  refine lv_iload hx hb dL_law_911 (lv_at hl 1 rfl) ?_
  refine lv_icmp_eq (tgt := 918) hx hb dL_law_913 (by decide) (fun c_13 => ?_) (fun c_13 => ?_)
  rotate_left
  · exact absurd c_13 (fun h => h (hz.trans hth))
  refine lv_iload hx hb dL_law_918 (lv_at hl 1 rfl) ?_
  refine lv_if_ne (tgt := 935) hx hb dL_law_920 (by decide) (fun c_14 => ?_) (fun c_14 => ?_)
  · refine lv_goto (tgt := 938) hx hb dL_law_935 (by decide) ?_
    exact W.widen (by omega) (by omega) (hk L2 f2 fo2 (va_up i 0 x0_10) a _ _ _ (hI2.mo (by omega)) hP hD hS (lv_sub hl [2, 3, 4, 5, 6] rfl))
  · refine lv_aload_n hx hb dL_law_923 rfl (lv_at hl 3 rfl) ?_
    refine lv_iconst (v := 0) hx hb dL_law_924 (by decide) ?_
    refine N_lald hx hb hK hP 11 rfl dL_law_925 ?_
    refine lv_iload hx hb dL_law_926 (lv_at hl 0 rfl) ?_
    refine lv_i2l (v := (z_11).toInt64) hx hb dL_law_928 rfl ?_
    refine W.lcmp hx hb dL_law_929 ?_
    refine lv_topi (fun z_15 ez_15 => ?_)
    refine lv_if_eq (tgt := 935) hx hb dL_law_930 (by decide) (fun c_16 => ?_) (fun c_16 => ?_)
    rotate_left
    · exact absurd c_16 (fun h => h (ez_15.trans (lgc (hout c_14))))
    refine lv_goto (tgt := 938) hx hb dL_law_935 (by decide) ?_
    exact W.widen (by omega) (by omega) (hk L2 f2 fo2 (va_up i 0 x0_10) a _ _ _ (hI2.mo (by omega)) hP hD hS (lv_sub hl [2, 3, 4, 5, 6] rfl))
