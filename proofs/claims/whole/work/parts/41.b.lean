noncomputable abbrev KSR : List Nat := [1, 2, 3, 12, 37, 39, 40, 41, 42, 43, 44, 45]
theorem SR.st {g : Nat → Nat} {L : List Nat} {f : Nat → va_E} {x0 wk vs cl ru : Nat} {va : Nat → Nat} {s s' : AS} (h : SR g L f (x0, wk, vs, cl, ru, va) s) (e1 : ∀ j ∈ KSR, s'.1 j = s.1 j) (e2 : ∀ j : Nat, j < 19 → s'.2 j = s.2 j) : SR g L f (x0, wk, vs, cl, ru, va) s' := by
  obtain ⟨h1, h2, h3, h4, h5, h6⟩ := h
  refine ⟨h1, fun k hk => ⟨(h2 k hk).1, (h2 k hk).2.st (e1 1 (by decide)) (fun j hj => by rw [e2 j (by omega)])⟩, fun k hk => ?_, ?_, ?_, ?_⟩
  · rw [e1 12 (by decide)] at hk
    obtain ⟨b, g1, g2⟩ := h3 k hk
    exact ⟨b, g1, g2.st (fun j _ hj => by rw [e2 j (by omega)])⟩
  · unfold WN; rw [e1 1 (by decide), e1 2 (by decide)]; exact h4
  · unfold HN; rw [e1 12 (by decide), e1 3 (by decide), e1 37 (by decide)]; exact h5
  · unfold RN; rw [e1 39 (by decide), e1 44 (by decide), e1 45 (by decide), e1 40 (by decide), e1 41 (by decide), e1 42 (by decide), e1 43 (by decide)]; exact h6
theorem sc_in {z ii kk : Int32} {k t Ln : Nat} (ez : z = ii + kk) (hii : ii = nI (6 * t)) (hkk : kk = nI k) (hk : k < 6) (ht : 6 * t + 6 ≤ Ln) (hL : Ln ≤ 3072) : vp_in z Ln := by
  rw [ez, hii, hkk, nI_add]
  exact vp_in_nI (by omega) (by omega)
theorem sc_in0 {ii : Int32} {t Ln : Nat} (hii : ii = nI (6 * t)) (ht : 6 * t + 6 ≤ Ln) (hL : Ln ≤ 3072) : vp_in ii Ln := by
  rw [hii]
  exact vp_in_nI (by omega) (by omega)
theorem lgc {a b : Int64} (h : a = b) : lg_cmp a b = 0 := by subst h; simp [lg_cmp]
section SLD
variable {p : Program} {l : Launch} {e : Env} {R : Room} {s : State} {m : MethodId} {args : Array Value} {below : List Frame} {meth : Method} {c : Code} {H : Heap} {locs : List Loc} {cells slots : Nat} {Q : State → Prop}
variable {dC : Nat → ClassId} {dI : Nat → Nat → Nat} {tys : List (ClassId × FieldType)} {cc : ByteArray} {rest : List Value} {pc : Nat} {ls : Array Slot}
theorem N_lald (hx : p.tables.exec = Jvm.exec) (hb : c.code = cc) (hK : va_K (dC, dI) vwCl tys s) {u v : va_W} {ou : Nat} {co : ClassId} {fo : Nat → Int64} (hP : va_P (dC, dI) vwCl ((u ++ [(ou, .inl (co, 1, .inr (.inl fo)))]) ++ v) H) (t0 : Nat) (ht : tys[t0]? = some (co, .long)) (hdg : decode cc pc = .ok (.laload, 1))
    (kk : W p l e R s m args below meth c H locs cells slots Q (F0 m (pc + 1) ls (.long (fo 0) :: rest))) : W p l e R s m args below meth c H locs cells slots Q (F0 m pc ls (.int 0 :: .ref ou :: rest)) := by
  have hat : ((u ++ [(ou, (Sum.inl (co, 1, .inr (.inl fo)) : va_E))]) ++ v)[u.length]? = some (ou, .inl (co, 1, .inr (.inl fo))) := by simp
  exact va_lald hx hb hK hP u.length t0 hat ht (i := 0) (by unfold vp_in; decide) hdg kk
end SLD
theorem BI.run {kd on inr oth nx fi mn : Nat → Int32} (h : BI kd on inr oth nx fi mn) (rr : Int32) : ∃ (V : Nat → Prop) (dp : Nat → Nat), ND V dp kd on inr oth nx ∧ (0 ≤ rr.toInt → rr.toInt < 8 → fi rr.toNatClampNeg = -2 ∨ lk V dp 0 (fi rr.toNatClampNeg)) := by
  by_cases h1 : 0 ≤ rr.toInt ∧ rr.toInt < 8
  · obtain ⟨-, -, dp, h2, h3⟩ := h rr.toNatClampNeg (by have := clamp_i h1.1; omega)
    exact ⟨_, dp, h2, fun _ _ => h3⟩
  · exact ⟨fun _ => False, fun _ => 0, fun k hk => hk.elim, fun a b => absurd ⟨a, b⟩ h1⟩
theorem TP.num {g : Nat → Nat} {L : List Nat} {f : Nat → va_E} {x0 : Nat} (h : TP g L f [(x0, (0, 9, 0))]) : ∃ z : Int32, rd f x0 2 = .int z := by
  obtain ⟨ha, hs⟩ := h.at 0 rfl
  obtain ⟨fs, hf⟩ := sh_obj hs
  have ho := h.1.2 x0 ha
  rw [hf] at ho
  have hl : 2 < fs.length := by
    have h1 : fs.length = 11 := ho.1
    omega
  obtain ⟨z, hz⟩ := ho.2 2 tI fs[2] rfl (List.getElem?_eq_getElem hl)
  exact ⟨z, by simp [rd, hf, hl, hz]⟩

/-! what holds between two calls -/
noncomputable abbrev HX : Type := HA × (Nat × Nat × Nat × Nat × (Nat → Nat)) × (Nat × Nat × Nat × (Nat → Nat)) × Nat
noncomputable def RLX (g : Nat → Nat) (h : HX) : List (Nat × shp) := match h with
  | ((x0, rdr, tok, tp, ka, sta, vaa), (wk, vs, cl, ru, _), (pl, tvr, tc, _), rc) => [(x0, (0, 9, 0)), (rdr, (0, 2, 0)), (tok, (0, 6, 0)), (tp, (1, g 1, 1500)), (ka, (1, g 0, 1501)), (sta, (1, g 5, 1501)), (vaa, (1, g 6, 1501)), (wk, (0, 8, 0)), (vs, (2, g 2, 6)), (cl, (2, g 3, 30)), (ru, (0, 4, 0)), (pl, (0, 1, 0)), (tvr, (2, g 10, 6)), (tc, (0, 0, 0)), (rc, (2, g 4, 8))]
noncomputable def PLf (f : Nat → va_E) (x0 cl wk : Nat) (va : Nat → Nat) (pl tvr tc : Nat) (tv : Nat → Nat) : Prop := (rd f x0 10 = .ref pl ∧ rd f pl 1 = .ref tvr ∧ rd f pl 2 = .ref tc ∧ rd f pl 0 = .ref wk) ∧ (∀ k : Nat, k < 6 → ra f tvr k = some (tv k)) ∧ ((∀ k : Nat, k < 6 → va k ∉ [(tv 0), (tv 1), (tv 2), (tv 3), (tv 4), (tv 5)]) ∧ ∀ i j : Nat, i < 6 → j < 6 → tv i = tv j → i = j) ∧ ∀ k : Nat, ¬ ra f cl k = some tc
noncomputable def LI (g : Nat → Nat) (h : HX) (B : Int) (L : List Nat) (f : Nat → va_E) (i : Nat → Int32) (a : Nat → Nat → Int32) : Prop := TP g L f (RLX g h) ∧ (match h with
  | ((x0, rdr, tok, tp, ka, sta, vaa), (wk, vs, cl, ru, va), (pl, tvr, tc, tv), rc) => (RF (x0, rdr, tok, tp, ka, sta, vaa) f ∧ AL (x0, rdr, tok, tp, ka, sta, vaa) f i a) ∧ (SR g L f (x0, wk, vs, cl, ru, va) (i, a) ∧ rd f x0 7 = .ref rc ∧ PLf f x0 cl wk va pl tvr tc tv) ∧ ∀ r : Nat, r < 8 → TREb L f rc (i, a) r) ∧ GI B (i, a) ∧ (0 ≤ (i 20).toInt ∧ (i 20).toInt ≤ 1500) ∧ BI (a 26) (a 27) (a 31) (a 32) (a 33) (a 34) (a 35) ∧ (i 46).toInt ≤ 3
/-- the cells that a call may change without the tape, the steps, the planner's links -/
noncomputable abbrev okcl (c : Nat × Nat) : Prop := c.1 = 0 ∨ c.1 = 4 ∨ c.1 = 7 ∨ c.1 = 8 ∨ (c.1 = 9 ∧ (c.2 = 2 ∨ c.2 = 3 ∨ c.2 = 8)) ∨ (c.1 = 1 ∧ (c.2 = 3 ∨ c.2 = 4 ∨ c.2 = 5)) ∨ (c.1 = 100 ∧ c.2 = 3) ∨ (c.1 = 200 ∧ c.2 = 30)
theorem nin {cs l : List (Nat × Nat)} (hcs : ∀ c ∈ cs, okcl c) (hl : ∀ c ∈ l, ¬ okcl c) : ∀ c ∈ l, c ∉ cs := fun c h h2 => hl c h (hcs c h2)
section LIS
variable {g : Nat → Nat} {L L2 : List Nat} {f f2 : Nat → va_E} {x0 rdr tok tp ka sta vaa wk vs cl ru pl tvr tc rc : Nat} {va tv : Nat → Nat} {i i2 : Nat → Int32} {a a2 : Nat → Nat → Int32} {B B2 : Int} {s2 : AS} {cs : List (Nat × Nat)} {r : Option Value} {fo : Int64}
theorem LI.op (hI : LI g ((x0, rdr, tok, tp, ka, sta, vaa), (wk, vs, cl, ru, va), (pl, tvr, tc, tv), rc) B L f i a) (hW : WT g L2 f2) (hE : Ext L f L2 f2) (hF : Fr cs L f f2) (hcs : ∀ c ∈ cs, okcl c) (hS : SR g L2 f2 (x0, wk, vs, cl, ru, va) s2) (hG : GI B2 s2) (h1 : ∀ j : Nat, j ≠ 0 → i2 j = s2.1 j) (h2 : a2 = s2.2) (hi : ∀ j ∈ [20, 23, 24, 46], s2.1 j = i j) (ha : ∀ j : Nat, 19 ≤ j → s2.2 j = a j) (hcl : ∀ k : Nat, ¬ ra f2 cl k = some tc) : LI g ((x0, rdr, tok, tp, ka, sta, vaa), (wk, vs, cl, ru, va), (pl, tvr, tc, tv), rc) B2 L2 f2 i2 a2 := by
  subst h2
  obtain ⟨hT, ⟨⟨hRF, tt, hCN, hag⟩, ⟨hSR, h7, ⟨p1, p2, p3, p4⟩, q1, q2, -⟩, hTE⟩, -, ht2, hBI, hkp⟩ := hI
  have e20 : i2 20 = i 20 := (h1 20 (by decide)).trans (hi 20 (by decide))
  have e23 : i2 23 = i 23 := (h1 23 (by decide)).trans (hi 23 (by decide))
  have e24 : i2 24 = i 24 := (h1 24 (by decide)).trans (hi 24 (by decide))
  have e46 : i2 46 = i 46 := (h1 46 (by decide)).trans (hi 46 (by decide))
  have hT7 : TP g L f (RLs g (x0, rdr, tok, tp, ka, sta, vaa)) := hT.sub [0, 1, 2, 3, 4, 5, 6] rfl
  have a0 := hT.at 0 rfl
  have a11 := hT.at 11 rfl
  have a12 := hT.at 12 rfl
  have a14 := hT.at 14 rfl
  have n9 : ∀ c ∈ [(9, 7), (9, 10), (1, 0), (1, 1), (1, 2), (200, 6), (200, 8)], c ∉ cs := nin hcs (by decide)
  have o5 : OF 5 [] L f f2 := OF.fr hF (fun c hc => by have := hcs c hc; omega)
  have o3 : OF 3 [] L f f2 := OF.fr hF (fun c hc => by have := hcs c hc; omega)
  refine ⟨hT.go hE hW, ⟨⟨hRF.fr hT7 hF (nin hcs (by decide)), tt, ?_, fun p hp => ?_⟩, ⟨hS.th h1 rfl, (hF.1 x0 a0.1 9 a0.2 7 (n9 _ (by decide))).trans h7, ⟨(hF.1 x0 a0.1 9 a0.2 10 (n9 _ (by decide))).trans p1, (hF.1 pl a11.1 1 a11.2 1 (n9 _ (by decide))).trans p2, (hF.1 pl a11.1 1 a11.2 2 (n9 _ (by decide))).trans p3, (hF.1 pl a11.1 1 a11.2 0 (n9 _ (by decide))).trans p4⟩, fun k hk => ?_, q2, hcl⟩, fun r hr => ?_⟩, hG.th (h1 12 (by decide)) (h1 1 (by decide)) (fun _ _ => rfl), ?_, ?_, ?_⟩
  · rw [e20, e23, e24]
    exact hCN.fr hT7 hF (nin hcs (by decide))
  · rw [e20] at hp
    rw [ha 19 (by omega)]
    exact hag p hp
  · rw [ra_eq (hF.2 tvr a12.1 1 _ _ a12.2 (n9 _ (by decide)))]
    exact q1 k hk
  · exact (hTE r hr).go hE o5 o3 (by rw [ra_eq (hF.2 rc a14.1 1 _ _ a14.2 (n9 _ (by decide)))]) (by show s2.2 34 r = a 34 r; rw [ha 34 (by omega)]) (fun j k _ _ hj _ => by show s2.2 j k = a j k; rw [ha j (by omega)])
  · rw [e20]; exact ht2
  · rw [ha 26 (by omega), ha 27 (by omega), ha 31 (by omega), ha 32 (by omega), ha 33 (by omega), ha 34 (by omega), ha 35 (by omega)]; exact hBI
  · rw [e46]; exact hkp
/-- how a call of the class came out -/
noncomputable def CO (g : Nat → Nat) (L : List Nat) (f : Nat → va_E) (L2 : List Nat) (f2 : Nat → va_E) (h : HB) (o : OP) (r : Option Value) (fo : Int64) : Prop := r = some (.int o.1) ∧ (o.1 = 0 → fo = o.2.1.toInt64) ∧ SR g L2 f2 h o.2.2 ∧ ∃ cs : List (Nat × Nat), (∀ c ∈ cs, okcl c ∧ c ≠ (200, 30)) ∧ Fr cs L f f2
variable {spec : OP} {sA : AS} {P1 P2 Q1 Q2 : Prop}
theorem co1 (h0 : SR g L f (x0, wk, vs, cl, ru, va) sA) (hE : Ext L f L2 f2) (hcs : ∀ c ∈ cs, okcl c ∧ c ≠ (200, 30)) (h : (∃ v : Int32, r = some (.int 0) ∧ ((∃ z : Int32, some (Value.int v) = some (.int z)) ∧ Fr cs L f f2 ∧ ∃ (v2 : Int32) (s2 : AS), spec = (0, v2, s2) ∧ some (Value.int v) = some (.int v2) ∧ SR g L2 f2 (x0, wk, vs, cl, ru, va) s2) ∧ fo = v.toInt64) ∨ (r = some (.int 1) ∧ (P1 ∧ spec = (1, 0, sA)) ∧ Fr [] L f f2)) : CO g L f L2 f2 (x0, wk, vs, cl, ru, va) spec r fo := by
  rcases h with ⟨v, h1, ⟨-, hF, v2, s2, h3, h4, h5⟩, h6⟩ | ⟨h1, ⟨-, h2⟩, hF⟩
  · subst h3
    cases h4
    exact ⟨h1, fun _ => h6, h5, cs, hcs, hF⟩
  · subst h2
    exact ⟨h1, fun h => by first | exact absurd (show (1 : Int32) = 0 from h) (by decide) | exact absurd (show (2 : Int32) = 0 from h) (by decide), h0.still hE hF (by decide), [], by decide, hF⟩
theorem co2 (h0 : SR g L f (x0, wk, vs, cl, ru, va) sA) (hE : Ext L f L2 f2) (hcs : ∀ c ∈ cs, okcl c ∧ c ≠ (200, 30)) (hP : ¬ P2) (hQ : ¬ Q1) (h : (∃ v : Int32, r = some (.int 0) ∧ ((∃ z : Int32, some (Value.int v) = some (.int z)) ∧ Fr cs L f f2 ∧ ∃ (v2 : Int32) (s2 : AS), spec = (0, v2, s2) ∧ some (Value.int v) = some (.int v2) ∧ SR g L2 f2 (x0, wk, vs, cl, ru, va) s2) ∧ fo = v.toInt64) ∨ (r = some (.int 1) ∧ ((P1 ∧ spec = (1, 0, sA)) ∨ (P2 ∧ spec = (2, 0, sA))) ∧ Fr [] L f f2) ∨ (r = some (.int 2) ∧ ((Q1 ∧ spec = (1, 0, sA)) ∨ (Q2 ∧ spec = (2, 0, sA))) ∧ Fr [] L f f2)) : CO g L f L2 f2 (x0, wk, vs, cl, ru, va) spec r fo := by
  rcases h with ⟨v, h1, ⟨-, hF, v2, s2, h3, h4, h5⟩, h6⟩ | ⟨h1, ⟨-, h2⟩ | ⟨h2, -⟩, hF⟩ | ⟨h1, ⟨h2, -⟩ | ⟨-, h2⟩, hF⟩
  · subst h3
    cases h4
    exact ⟨h1, fun _ => h6, h5, cs, hcs, hF⟩
  · subst h2
    exact ⟨h1, fun h => by first | exact absurd (show (1 : Int32) = 0 from h) (by decide) | exact absurd (show (2 : Int32) = 0 from h) (by decide), h0.still hE hF (by decide), [], by decide, hF⟩
  · exact absurd h2 hP
  · exact absurd h2 hQ
  · subst h2
    exact ⟨h1, fun h => by first | exact absurd (show (1 : Int32) = 0 from h) (by decide) | exact absurd (show (2 : Int32) = 0 from h) (by decide), h0.still hE hF (by decide), [], by decide, hF⟩
/-- both sides have done the call -/
theorem both_op {K KA_ : List Nat} {z zb y0 : Int32} (hI : LI g ((x0, rdr, tok, tp, ka, sta, vaa), (wk, vs, cl, ru, va), (pl, tvr, tc, tv), rc) B L f i a) (hW : WT g L2 f2) (hE : Ext L f L2 f2) (hc : CO g L f L2 f2 (x0, wk, vs, cl, ru, va) spec (some (.int z)) fo) (hG : GI B2 spec.2.2) (hfx : Eqx K spec.2.2.1 i ∧ Eqx KA_ spec.2.2.2 a) (m0 : y0 = spec.1) (m1 : spec.1 = 0 → some (Value.int zb) = some (.int spec.2.1)) (e1 : Eqx (0 :: K) i2 i) (e2 : Eqx KA_ a2 a) (k1 : ∀ k ∈ K, i2 k = spec.2.2.1 k) (k2 : ∀ k ∈ KA_, a2 k = spec.2.2.2 k) (hK : ∀ k ∈ [20, 23, 24, 46], k ∉ K) (hKA : ∀ k ∈ KA_, k < 19) : y0 = z ∧ (z = 0 → fo = zb.toInt64) ∧ LI g ((x0, rdr, tok, tp, ka, sta, vaa), (wk, vs, cl, ru, va), (pl, tvr, tc, tv), rc) B2 L2 f2 i2 a2 := by
  obtain ⟨c1, c2, c3, cs, c4, c5⟩ := hc
  have ez : z = spec.1 := by cases c1; rfl
  refine ⟨by rw [m0, ez], fun h => ?_, ?_⟩
  · rw [ez] at h
    have h2 := m1 h
    rw [c2 h]
    cases h2
    rfl
  · have a9 := hI.1.at 9 rfl
    refine hI.op hW hE c5 (fun c hm => (c4 c hm).1) c3 hG (eqx_i hfx.1 e1 k1) (eqx_a hfx.2 e2 k2) (fun j hj => hfx.1 j (hK j hj)) (fun j hj => hfx.2 j (fun m => by have := hKA j m; omega)) (fun k => ?_)
    rw [ra_eq (c5.2 cl a9.1 1 _ _ a9.2 (fun m => (c4 _ m).2 rfl))]
    exact hI.2.1.2.1.2.2.2.2.2 k
/-- other numbers and rows that say the same -/
theorem LI.cg (hI : LI g ((x0, rdr, tok, tp, ka, sta, vaa), (wk, vs, cl, ru, va), (pl, tvr, tc, tv), rc) B L f i a) (e1 : ∀ j ∈ [1, 2, 3, 12, 20, 23, 24, 37, 39, 40, 41, 42, 43, 44, 45], i2 j = i j) (h46 : (i2 46).toInt ≤ 3) (e2 : ∀ j : Nat, j < 36 → a2 j = a j) : LI g ((x0, rdr, tok, tp, ka, sta, vaa), (wk, vs, cl, ru, va), (pl, tvr, tc, tv), rc) B L f i2 a2 := by
  obtain ⟨b1, ⟨⟨b2, tt, b3, b4⟩, ⟨b5, b6, b7⟩, b8⟩, b9, b10, b11, b12⟩ := hI
  refine ⟨b1, ⟨⟨b2, tt, by rw [e1 20 (by decide), e1 23 (by decide), e1 24 (by decide)]; exact b3, fun p hp => ?_⟩, ⟨b5.st (fun j hj => e1 j (by revert j; decide)) (fun j hj => e2 j (by omega)), b6, b7⟩, fun r hr => ?_⟩, b9.th (e1 12 (by decide)) (e1 1 (by decide)) (fun j hj => e2 j (by omega)), by rw [e1 20 (by decide)]; exact b10, by rw [e2 26 (by omega), e2 27 (by omega), e2 31 (by omega), e2 32 (by omega), e2 33 (by omega), e2 34 (by omega), e2 35 (by omega)]; exact b11, h46⟩
  · rw [e1 20 (by decide)] at hp
    rw [e2 19 (by omega)]
    exact b4 p hp
  · exact (b8 r hr).go (fun b hb => ⟨hb, rfl⟩) OF.rf OF.rf rfl (by show a2 34 r = a 34 r; rw [e2 34 (by omega)]) (fun j k _ _ hj h => by show a2 j k = a j k; rw [e2 j (by omega)])
/-- a call of the class that leaves the state -/
theorem LI.still (hI : LI g ((x0, rdr, tok, tp, ka, sta, vaa), (wk, vs, cl, ru, va), (pl, tvr, tc, tv), rc) B L f i a) (hW : WT g L2 f2) (hE : Ext L f L2 f2) (hF : Fr cs L f f2) (hcs : ∀ c ∈ cs, okcl c ∧ c ≠ (200, 30)) (hS : SR g L2 f2 (x0, wk, vs, cl, ru, va) (i, a)) : LI g ((x0, rdr, tok, tp, ka, sta, vaa), (wk, vs, cl, ru, va), (pl, tvr, tc, tv), rc) B L2 f2 i a := by
  have a9 := hI.1.at 9 rfl
  refine hI.op hW hE hF (fun c hm => (hcs c hm).1) hS hI.2.2.1 (fun _ _ => rfl) rfl (fun _ _ => rfl) (fun _ _ => rfl) (fun k => ?_)
  rw [ra_eq (hF.2 cl a9.1 1 _ _ a9.2 (fun m => (hcs _ m).2 rfl))]
  exact hI.2.1.2.1.2.2.2.2.2 k
/-- cloth -/
theorem LI.clo {z9 zb y0 y12 : Int32} {y13 : Nat → Int32} {w : Int32} (hI : LI g ((x0, rdr, tok, tp, ka, sta, vaa), (wk, vs, cl, ru, va), (pl, tvr, tc, tv), rc) B L f i a) (hW : WT g L2 f2) (hE : Ext L f L2 f2) (hF : Fr cs L f f2) (hcs : ∀ c ∈ cs, okcl c) (hc : ∃ (v : Int32) (s2 : AS), clS w (i, a) = (0, v, s2) ∧ some (Value.int z9) = some (.int v) ∧ SR g L2 f2 (x0, wk, vs, cl, ru, va) s2) (hr : ∀ k : Nat, ra f2 cl k = ra f cl k ∨ ∃ q : Nat, q ∉ L ∧ ra f2 cl k = some q) (hm : y0 = (clS w (i, a)).1 ∧ ((clS w (i, a)).1 = 0 → some (Value.int zb) = some (.int (clS w (i, a)).2.1)) ∧ y12 = (clS w (i, a)).2.2.1 12 ∧ y13 = (clS w (i, a)).2.2.2 13) : LI g ((x0, rdr, tok, tp, ka, sta, vaa), (wk, vs, cl, ru, va), (pl, tvr, tc, tv), rc) B L2 f2 (va_up (va_up i 0 y0) 12 y12) (va_up a 13 y13) := by
  obtain ⟨v, s2, h1, -, h3⟩ := hc
  obtain ⟨-, -, m2, m3⟩ := hm
  have fx := fx_cl (w := w) (s := (i, a))
  have hG := hI.2.2.1.cl (w := w)
  rw [h1] at fx hG m2 m3
  have a13 := hI.1.at 13 rfl
  refine hI.op hW hE hF hcs h3 hG (eqx_i fx.1 (Eqx.up (by decide) (Eqx.up (by decide) Eqx.rf)) ?_) (eqx_a fx.2 (Eqx.up (by decide) Eqx.rf) ?_) (fun j hj => fx.1 j (by revert j; decide)) (fun j hj => fx.2 j (fun m => by have := List.mem_singleton.mp m; omega)) (fun k => ?_)
  · intro k hk
    obtain rfl := List.mem_singleton.mp hk
    exact m2
  · intro k hk
    obtain rfl := List.mem_singleton.mp hk
    exact m3
  · rcases hr k with h | ⟨q, hq, h⟩
    · rw [h]; exact hI.2.1.2.1.2.2.2.2.2 k
    · rw [h]
      intro e
      cases e
      exact hq a13.1
/-- put -/
theorem LI.put {y20 : Int32} {y19 : Nat → Int32} (hI : LI g ((x0, rdr, tok, tp, ka, sta, vaa), (wk, vs, cl, ru, va), (pl, tvr, tc, tv), rc) B L f i a) (hW : WT g L2 f2) (hE : Ext L f L2 f2) (hF : Fr [(9, 5), (100, 1500)] L f f2) (hpb : ∃ tt : Nat → Int32, CN (x0, rdr, tok, tp, ka, sta, vaa) f2 y20 (i 23) (i 24) tt ∧ ∀ p : Nat, (p : Int) < y20.toInt → agb (tt p) (y19 p)) (ht : 0 ≤ y20.toInt ∧ y20.toInt ≤ 1500) (h20 : i2 20 = y20) (h19 : a2 19 = y19) (e1 : ∀ j : Nat, j ≠ 0 → j ≠ 20 → i2 j = i j) (e2 : ∀ j : Nat, j ≠ 19 → a2 j = a j) : LI g ((x0, rdr, tok, tp, ka, sta, vaa), (wk, vs, cl, ru, va), (pl, tvr, tc, tv), rc) B L2 f2 i2 a2 := by
  obtain ⟨hT, ⟨⟨hRF, -⟩, ⟨hSR, h7, ⟨p1, p2, p3, p4⟩, q1, q2, q3⟩, hTE⟩, hG, -, hBI, hkp⟩ := hI
  have hT7 : TP g L f (RLs g (x0, rdr, tok, tp, ka, sta, vaa)) := hT.sub [0, 1, 2, 3, 4, 5, 6] rfl
  have a0 := hT.at 0 rfl
  have a9 := hT.at 9 rfl
  have a11 := hT.at 11 rfl
  have a12 := hT.at 12 rfl
  have a14 := hT.at 14 rfl
  obtain ⟨tt, hCN, hag⟩ := hpb
  refine ⟨hT.go hE hW, ⟨⟨hRF.fr hT7 hF (by decide), tt, by rw [h20, e1 23 (by decide) (by decide), e1 24 (by decide) (by decide)]; exact hCN, fun p hp => by rw [h20] at hp; rw [h19]; exact hag p hp⟩, ⟨(hSR.still hE hF (by decide)).st (fun j hj => e1 j (by revert j; decide) (by revert j; decide)) (fun j hj => e2 j (by omega)), (hF.1 x0 a0.1 9 a0.2 7 (by decide)).trans h7, ⟨(hF.1 x0 a0.1 9 a0.2 10 (by decide)).trans p1, (hF.1 pl a11.1 1 a11.2 1 (by decide)).trans p2, (hF.1 pl a11.1 1 a11.2 2 (by decide)).trans p3, (hF.1 pl a11.1 1 a11.2 0 (by decide)).trans p4⟩, fun k hk => by rw [ra_eq (hF.2 tvr a12.1 1 _ _ a12.2 (by decide))]; exact q1 k hk, q2, fun k => by rw [ra_eq (hF.2 cl a9.1 1 _ _ a9.2 (by decide))]; exact q3 k⟩, fun r hr => ?_⟩, hG.th (e1 12 (by decide) (by decide)) (e1 1 (by decide) (by decide)) (fun j hj => e2 j (by omega)), by rw [h20]; exact ht, by rw [e2 26 (by omega), e2 27 (by omega), e2 31 (by omega), e2 32 (by omega), e2 33 (by omega), e2 34 (by omega), e2 35 (by omega)]; exact hBI, by rw [e1 46 (by decide) (by decide)]; exact hkp⟩
  exact (hTE r hr).go hE (OF.fr hF (by decide)) (OF.fr hF (by decide)) (by rw [ra_eq (hF.2 rc a14.1 1 _ _ a14.2 (by decide))]) (by show a2 34 r = a 34 r; rw [e2 34 (by omega)]) (fun j k _ _ hj _ => by show a2 j k = a j k; rw [e2 j (by omega)])
end LIS
