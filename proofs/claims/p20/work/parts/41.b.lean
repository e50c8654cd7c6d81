noncomputable abbrev KSR : List Nat := [1, 2, 3, 12, 37, 39, 40, 41, 42, 43, 44, 45]
theorem SR.st {g : Nat → Nat} {L : List Nat} {f : Nat → va_E} {x0 wk vs cl ru : Nat} {va : Nat → Nat} {s s' : AS} (h : SR g L f (x0, wk, vs, cl, ru, va) s) (e1 : ∀ j ∈ KSR, s'.1 j = s.1 j) (e2 : ∀ j : Nat, j < 19 → s'.2 j = s.2 j) : SR g L f (x0, wk, vs, cl, ru, va) s' := by
  obtain ⟨h1, h2, h3, h4, h5, h6⟩ := h
  refine ⟨h1, fun k hk => ⟨(h2 k hk).1, (h2 k hk).2.st (e1 1 (by decide)) (fun j hj => by rw [e2 j (by omega)])⟩, fun k hk => ?_, ?_, ?_, ?_⟩
  · rw [e1 12 (by decide)] at hk
    obtain ⟨b, g1, g2⟩ := h3 k hk
    exact ⟨b, g1, g2.st (fun j _ hj => by rw [e2 j (by omega)])⟩
  · unfold WN; rw [e1 1 (by decide), e1 2 (by decide)]; exact h4
  · unfold HN; rw [e1 12 (by decide), e1 3 (by decide), e1 37 (by decide)]; exact h5
  · unfold RN; rw [e1 39 (by decide), e1 44 (by decide), e1 45 (by decide), e1 40 (by decide), e1 41 (by decide), e1 42 (by decide), e1 43 (by decide)]; exact h6
theorem sc_in {z ii kk : Int32} {k t Ln : Nat} (ez : z = ii + kk) (hii : ii = nI (6 * t)) (hkk : kk = nI k) (hk : k < 6) (ht : 6 * t + 6 ≤ Ln) (hL : Ln ≤ 3072) : vp_in z Ln := by
  rw [ez, hii, hkk, nI_add]
  exact vp_in_nI (by omega) (by omega)
theorem sc_in0 {ii : Int32} {t Ln : Nat} (hii : ii = nI (6 * t)) (ht : 6 * t + 6 ≤ Ln) (hL : Ln ≤ 3072) : vp_in ii Ln := by
  rw [hii]
  exact vp_in_nI (by omega) (by omega)
theorem sc_go {ii z1 z2 : Int32} {t Ln : Nat} (hii : ii = nI (6 * t)) (e1 : z1 = nI Ln) (e2 : z2 = z1 - 6) (hL : Ln ≤ 3072) (ht : t ≤ 600) (h : ¬ z2 < ii) : 6 * t + 6 ≤ Ln := by
  have h1 := nlt_i h
  have e6 : (6 : Int32).toInt = 6 := by decide
  have e3 : z1.toInt = (Ln : Int) := by rw [e1]; exact nI_toInt (by omega)
  have e4 := sub_i e2 (by omega) (by omega)
  have e5 : ii.toInt = ((6 * t : Nat) : Int) := by rw [hii]; exact nI_toInt (by omega)
  omega
theorem lgc {a b : Int64} (h : a = b) : lg_cmp a b = 0 := by subst h; simp [lg_cmp]
theorem nI_ofI {t : Int32} (h : 0 ≤ t.toInt ∧ t.toInt ≤ 1500) : ∃ nn : Nat, t = nI nn ∧ nn ≤ 1500 ∧ (nn : Int) = t.toInt := by
  refine ⟨t.toInt.toNat, Int32.toInt_inj.mp ?_, by omega, by omega⟩
  rw [nI_toInt (by omega)]
  omega
theorem put_both {g : Nat → Nat} {x0 rdr tok tp ka sta vaa : Nat} {L : List Nat} {f f2 : Nat → va_E} {t0 fa pw tl x20 a1 a2 a3 a4 a5 : Int32} {tt tm y19 : Nat → Int32} (hT : TP g L f (RLs g (x0, rdr, tok, tp, ka, sta, vaa))) (ht : 0 ≤ t0.toInt ∧ t0.toInt ≤ 1500) (hCN : CN (x0, rdr, tok, tp, ka, sta, vaa) f t0 fa pw tt) (hag : ∀ p : Nat, (p : Int) < t0.toInt → agb (tt p) (tm p)) (hF : Fr [(9, 5), (100, 1500)] L f f2) (h5 : rd f2 x0 5 = .int tl)
    (h1 : ∀ nn : Nat, t0 = nI nn → nn ≤ 1500 → (nn ≤ 1480 → tl = nI (nn + 20) ∧ ia f2 tp = ap5 b8 (ia f tp) nn a1 a2 a3 a4 a5) ∧ (¬ nn ≤ 1480 → tl = t0 ∧ ia f2 tp = ia f tp))
    (h2 : ∀ nn : Nat, t0 = nI nn → nn ≤ 1500 → (nn ≤ 1480 → x20 = nI (nn + 20) ∧ y19 = ap5 bM tm nn a1 a2 a3 a4 a5) ∧ (¬ nn ≤ 1480 → x20 = t0 ∧ y19 = tm)) :
    ∃ tt' : Nat → Int32, CN (x0, rdr, tok, tp, ka, sta, vaa) f2 x20 fa pw tt' ∧ ∀ p : Nat, (p : Int) < x20.toInt → agb (tt' p) (y19 p) := by
  obtain ⟨nn, e1, e2, e3⟩ := nI_ofI ht
  have q1 := hT.at 1 rfl
  have k3 := (hF.1 rdr q1.1 2 q1.2 3 (by decide)).trans hCN.2.1
  have k4 := (hF.1 rdr q1.1 2 q1.2 4 (by decide)).trans hCN.2.2.1
  have hi : ia f tp = tt := hCN.2.2.2
  by_cases hn : nn ≤ 1480
  · obtain ⟨g1, g2⟩ := (h1 nn e1 e2).1 hn
    obtain ⟨g3, g4⟩ := (h2 nn e1 e2).1 hn
    subst g4
    refine ⟨_, ⟨by rw [g3, ← g1]; exact h5, k3, k4, rfl⟩, fun p hp => ?_⟩
    show agb (ia f2 tp p) _
    rw [g2, hi]
    refine ap5_ag (fun p hp => hag p (by omega)) p ?_
    rw [g3, nI_toInt (by omega)] at hp
    omega
  · obtain ⟨g1, g2⟩ := (h1 nn e1 e2).2 hn
    obtain ⟨g3, g4⟩ := (h2 nn e1 e2).2 hn
    subst g4
    refine ⟨_, ⟨by rw [g3, ← g1]; exact h5, k3, k4, rfl⟩, fun p hp => ?_⟩
    show agb (ia f2 tp p) _
    rw [g2, hi]
    rw [g3] at hp
    exact hag p hp
section SLD
variable {p : Program} {l : Launch} {e : Env} {R : Room} {s : State} {m : MethodId} {args : Array Value} {below : List Frame} {meth : Method} {c : Code} {H : Heap} {locs : List Loc} {cells slots : Nat} {Q : State → Prop}
variable {dC : Nat → ClassId} {dI : Nat → Nat → Nat} {tys : List (ClassId × FieldType)} {cc : ByteArray} {rest : List Value} {pc : Nat} {ls : Array Slot}
theorem N_lald (hx : p.tables.exec = Jvm.exec) (hb : c.code = cc) (hK : va_K (dC, dI) vwCl tys s) {u v : va_W} {ou : Nat} {co : ClassId} {fo : Nat → Int64} (hP : va_P (dC, dI) vwCl ((u ++ [(ou, .inl (co, 1, .inr (.inl fo)))]) ++ v) H) (t0 : Nat) (ht : tys[t0]? = some (co, .long)) (hdg : decode cc pc = .ok (.laload, 1))
    (kk : W p l e R s m args below meth c H locs cells slots Q (F0 m (pc + 1) ls (.long (fo 0) :: rest))) : W p l e R s m args below meth c H locs cells slots Q (F0 m pc ls (.int 0 :: .ref ou :: rest)) := by
  have hat : ((u ++ [(ou, (Sum.inl (co, 1, .inr (.inl fo)) : va_E))]) ++ v)[u.length]? = some (ou, .inl (co, 1, .inr (.inl fo))) := by simp
  exact va_lald hx hb hK hP u.length t0 hat ht (i := 0) (by unfold vp_in; decide) hdg kk
end SLD
theorem put_TI {o n z : Int32} (h : 0 ≤ o.toInt ∧ o.toInt ≤ 1500) (hp : (1480 < o.toInt ∧ z = -1 ∧ n = o) ∨ (o.toInt ≤ 1480 ∧ z = n ∧ n.toInt = o.toInt + 20)) : 0 ≤ n.toInt ∧ n.toInt ≤ 1500 := by
  rcases hp with ⟨-, -, h1⟩ | ⟨h1, -, h2⟩
  · rw [h1]; exact h
  · omega
theorem BI.run {kd on inr oth nx fi mn : Nat → Int32} (h : BI kd on inr oth nx fi mn) (rr : Int32) : ∃ (V : Nat → Prop) (dp : Nat → Nat), ND V dp kd on inr oth nx ∧ (0 ≤ rr.toInt → rr.toInt < 8 → fi rr.toNatClampNeg = -2 ∨ lk V dp 0 (fi rr.toNatClampNeg)) := by
  by_cases h1 : 0 ≤ rr.toInt ∧ rr.toInt < 8
  · obtain ⟨-, -, dp, h2, h3⟩ := h rr.toNatClampNeg (by have := clamp_i h1.1; omega)
    exact ⟨_, dp, h2, fun _ _ => h3⟩
  · exact ⟨fun _ => False, fun _ => 0, fun k hk => hk.elim, fun a b => absurd ⟨a, b⟩ h1⟩
theorem TP.num {g : Nat → Nat} {L : List Nat} {f : Nat → va_E} {x0 : Nat} (h : TP g L f [(x0, (0, 9, 0))]) : ∃ z : Int32, rd f x0 2 = .int z := by
  obtain ⟨ha, hs⟩ := h.at 0 rfl
  obtain ⟨fs, hf⟩ := sh_obj hs
  have ho := h.1.2 x0 ha
  rw [hf] at ho
  have hl : 2 < fs.length := by
    have h1 : fs.length = 11 := ho.1
    omega
  obtain ⟨z, hz⟩ := ho.2 2 tI fs[2] rfl (List.getElem?_eq_getElem hl)
  exact ⟨z, by simp [rd, hf, hl, hz]⟩

/-! what holds between two calls -/
noncomputable abbrev HX : Type := HA × (Nat × Nat × Nat × Nat × (Nat → Nat)) × (Nat × Nat × Nat × (Nat → Nat)) × Nat
noncomputable def RLX (g : Nat → Nat) (h : HX) : List (Nat × shp) := match h with
  | ((x0, rdr, tok, tp, ka, sta, vaa), (wk, vs, cl, ru, _), (pl, tvr, tc, _), rc) => [(x0, (0, 9, 0)), (rdr, (0, 2, 0)), (tok, (0, 6, 0)), (tp, (1, g 1, 1500)), (ka, (1, g 0, 1501)), (sta, (1, g 5, 1501)), (vaa, (1, g 6, 1501)), (wk, (0, 8, 0)), (vs, (2, g 2, 6)), (cl, (2, g 3, 30)), (ru, (0, 4, 0)), (pl, (0, 1, 0)), (tvr, (2, g 10, 6)), (tc, (0, 0, 0)), (rc, (2, g 4, 8))]
noncomputable def PLf (f : Nat → va_E) (x0 cl wk : Nat) (va : Nat → Nat) (pl tvr tc : Nat) (tv : Nat → Nat) : Prop := (rd f x0 10 = .ref pl ∧ rd f pl 1 = .ref tvr ∧ rd f pl 2 = .ref tc ∧ rd f pl 0 = .ref wk) ∧ (∀ k : Nat, k < 6 → ra f tvr k = some (tv k)) ∧ (∀ k : Nat, k < 6 → va k ∉ [(tv 0), (tv 1), (tv 2), (tv 3), (tv 4), (tv 5)]) ∧ ∀ k : Nat, ¬ ra f cl k = some tc
noncomputable def LI (g : Nat → Nat) (h : HX) (B : Int) (L : List Nat) (f : Nat → va_E) (i : Nat → Int32) (a : Nat → Nat → Int32) : Prop := TP g L f (RLX g h) ∧ (match h with
  | ((x0, rdr, tok, tp, ka, sta, vaa), (wk, vs, cl, ru, va), (pl, tvr, tc, tv), rc) => (RF (x0, rdr, tok, tp, ka, sta, vaa) f ∧ AL (x0, rdr, tok, tp, ka, sta, vaa) f i a) ∧ (SR g L f (x0, wk, vs, cl, ru, va) (i, a) ∧ rd f x0 7 = .ref rc ∧ PLf f x0 cl wk va pl tvr tc tv) ∧ ∀ r : Nat, r < 8 → TREb L f rc (i, a) r) ∧ GI B (i, a) ∧ (0 ≤ (i 20).toInt ∧ (i 20).toInt ≤ 1500) ∧ BI (a 26) (a 27) (a 31) (a 32) (a 33) (a 34) (a 35) ∧ (i 46).toInt ≤ 3
/-- the cells that a call may change without the tape, the steps, the planner's links -/
noncomputable abbrev okcl (c : Nat × Nat) : Prop := c.1 = 0 ∨ c.1 = 4 ∨ c.1 = 7 ∨ c.1 = 8 ∨ (c.1 = 9 ∧ (c.2 = 2 ∨ c.2 = 3 ∨ c.2 = 8)) ∨ (c.1 = 1 ∧ (c.2 = 3 ∨ c.2 = 4 ∨ c.2 = 5)) ∨ (c.1 = 100 ∧ c.2 = 3) ∨ (c.1 = 200 ∧ c.2 = 30)
theorem nin {cs l : List (Nat × Nat)} (hcs : ∀ c ∈ cs, okcl c) (hl : ∀ c ∈ l, ¬ okcl c) : ∀ c ∈ l, c ∉ cs := fun c h h2 => hl c h (hcs c h2)
section LIS
variable {g : Nat → Nat} {L L2 : List Nat} {f f2 : Nat → va_E} {x0 rdr tok tp ka sta vaa wk vs cl ru pl tvr tc rc : Nat} {va tv : Nat → Nat} {i i2 : Nat → Int32} {a a2 : Nat → Nat → Int32} {B B2 : Int} {s2 : AS} {cs : List (Nat × Nat)} {r : Option Value} {fo : Int64}
theorem LI.op (hI : LI g ((x0, rdr, tok, tp, ka, sta, vaa), (wk, vs, cl, ru, va), (pl, tvr, tc, tv), rc) B L f i a) (hW : WT g L2 f2) (hE : Ext L f L2 f2) (hF : Fr cs L f f2) (hcs : ∀ c ∈ cs, okcl c) (hS : SR g L2 f2 (x0, wk, vs, cl, ru, va) s2) (hG : GI B2 s2) (h1 : ∀ j : Nat, j ≠ 0 → i2 j = s2.1 j) (h2 : a2 = s2.2) (hi : ∀ j ∈ [20, 23, 24, 46], s2.1 j = i j) (ha : ∀ j : Nat, 19 ≤ j → s2.2 j = a j) (hcl : ∀ k : Nat, ¬ ra f2 cl k = some tc) : LI g ((x0, rdr, tok, tp, ka, sta, vaa), (wk, vs, cl, ru, va), (pl, tvr, tc, tv), rc) B2 L2 f2 i2 a2 := by
  subst h2
  obtain ⟨hT, ⟨⟨hRF, tt, hCN, hag⟩, ⟨hSR, h7, ⟨p1, p2, p3, p4⟩, q1, q2, -⟩, hTE⟩, -, ht2, hBI, hkp⟩ := hI
  have e20 : i2 20 = i 20 := (h1 20 (by decide)).trans (hi 20 (by decide))
  have e23 : i2 23 = i 23 := (h1 23 (by decide)).trans (hi 23 (by decide))
  have e24 : i2 24 = i 24 := (h1 24 (by decide)).trans (hi 24 (by decide))
  have e46 : i2 46 = i 46 := (h1 46 (by decide)).trans (hi 46 (by decide))
  have hT7 : TP g L f (RLs g (x0, rdr, tok, tp, ka, sta, vaa)) := hT.sub [0, 1, 2, 3, 4, 5, 6] rfl
  have a0 := hT.at 0 rfl
  have a11 := hT.at 11 rfl
  have a12 := hT.at 12 rfl
  have a14 := hT.at 14 rfl
  have n9 : ∀ c ∈ [(9, 7), (9, 10), (1, 0), (1, 1), (1, 2), (200, 6), (200, 8)], c ∉ cs := nin hcs (by decide)
  have o5 : OF 5 [] L f f2 := OF.fr hF (fun c hc => by have := hcs c hc; omega)
  have o3 : OF 3 [] L f f2 := OF.fr hF (fun c hc => by have := hcs c hc; omega)
  refine ⟨hT.go hE hW, ⟨⟨hRF.fr hT7 hF (nin hcs (by decide)), tt, ?_, fun p hp => ?_⟩, ⟨hS.th h1 rfl, (hF.1 x0 a0.1 9 a0.2 7 (n9 _ (by decide))).trans h7, ⟨(hF.1 x0 a0.1 9 a0.2 10 (n9 _ (by decide))).trans p1, (hF.1 pl a11.1 1 a11.2 1 (n9 _ (by decide))).trans p2, (hF.1 pl a11.1 1 a11.2 2 (n9 _ (by decide))).trans p3, (hF.1 pl a11.1 1 a11.2 0 (n9 _ (by decide))).trans p4⟩, fun k hk => ?_, q2, hcl⟩, fun r hr => ?_⟩, hG.th (h1 12 (by decide)) (h1 1 (by decide)) (fun _ _ => rfl), ?_, ?_, ?_⟩
  · rw [e20, e23, e24]
    exact hCN.fr hT7 hF (nin hcs (by decide))
  · rw [e20] at hp
    rw [ha 19 (by omega)]
    exact hag p hp
  · rw [ra_eq (hF.2 tvr a12.1 1 _ _ a12.2 (n9 _ (by decide)))]
    exact q1 k hk
  · exact (hTE r hr).go hE o5 o3 (by rw [ra_eq (hF.2 rc a14.1 1 _ _ a14.2 (n9 _ (by decide)))]) (by show s2.2 34 r = a 34 r; rw [ha 34 (by omega)]) (fun j k _ _ hj _ => by show s2.2 j k = a j k; rw [ha j (by omega)])
  · rw [e20]; exact ht2
  · rw [ha 26 (by omega), ha 27 (by omega), ha 31 (by omega), ha 32 (by omega), ha 33 (by omega), ha 34 (by omega), ha 35 (by omega)]; exact hBI
  · rw [e46]; exact hkp
/-- how a call of the class came out -/
noncomputable def CO (g : Nat → Nat) (L : List Nat) (f : Nat → va_E) (L2 : List Nat) (f2 : Nat → va_E) (h : HB) (o : OP) (r : Option Value) (fo : Int64) : Prop := r = some (.int o.1) ∧ (o.1 = 0 → fo = o.2.1.toInt64) ∧ SR g L2 f2 h o.2.2 ∧ ∃ cs : List (Nat × Nat), (∀ c ∈ cs, okcl c ∧ c ≠ (200, 30)) ∧ Fr cs L f f2
variable {spec : OP} {sA : AS} {P1 P2 Q1 Q2 : Prop}
theorem co1 (h0 : SR g L f (x0, wk, vs, cl, ru, va) sA) (hE : Ext L f L2 f2) (hcs : ∀ c ∈ cs, okcl c ∧ c ≠ (200, 30)) (h : (∃ v : Int32, r = some (.int 0) ∧ ((∃ z : Int32, some (Value.int v) = some (.int z)) ∧ Fr cs L f f2 ∧ ∃ (v2 : Int32) (s2 : AS), spec = (0, v2, s2) ∧ some (Value.int v) = some (.int v2) ∧ SR g L2 f2 (x0, wk, vs, cl, ru, va) s2) ∧ fo = v.toInt64) ∨ (r = some (.int 1) ∧ (P1 ∧ spec = (1, 0, sA)) ∧ Fr [] L f f2)) : CO g L f L2 f2 (x0, wk, vs, cl, ru, va) spec r fo := by
  rcases h with ⟨v, h1, ⟨-, hF, v2, s2, h3, h4, h5⟩, h6⟩ | ⟨h1, ⟨-, h2⟩, hF⟩
  · subst h3
    cases h4
    exact ⟨h1, fun _ => h6, h5, cs, hcs, hF⟩
  · subst h2
    exact ⟨h1, fun h => by first | exact absurd (show (1 : Int32) = 0 from h) (by decide) | exact absurd (show (2 : Int32) = 0 from h) (by decide), h0.still hE hF (by decide), [], by decide, hF⟩
theorem co2 (h0 : SR g L f (x0, wk, vs, cl, ru, va) sA) (hE : Ext L f L2 f2) (hcs : ∀ c ∈ cs, okcl c ∧ c ≠ (200, 30)) (hP : ¬ P2) (hQ : ¬ Q1) (h : (∃ v : Int32, r = some (.int 0) ∧ ((∃ z : Int32, some (Value.int v) = some (.int z)) ∧ Fr cs L f f2 ∧ ∃ (v2 : Int32) (s2 : AS), spec = (0, v2, s2) ∧ some (Value.int v) = some (.int v2) ∧ SR g L2 f2 (x0, wk, vs, cl, ru, va) s2) ∧ fo = v.toInt64) ∨ (r = some (.int 1) ∧ ((P1 ∧ spec = (1, 0, sA)) ∨ (P2 ∧ spec = (2, 0, sA))) ∧ Fr [] L f f2) ∨ (r = some (.int 2) ∧ ((Q1 ∧ spec = (1, 0, sA)) ∨ (Q2 ∧ spec = (2, 0, sA))) ∧ Fr [] L f f2)) : CO g L f L2 f2 (x0, wk, vs, cl, ru, va) spec r fo := by
  rcases h with ⟨v, h1, ⟨-, hF, v2, s2, h3, h4, h5⟩, h6⟩ | ⟨h1, ⟨-, h2⟩ | ⟨h2, -⟩, hF⟩ | ⟨h1, ⟨h2, -⟩ | ⟨-, h2⟩, hF⟩
  · subst h3
    cases h4
    exact ⟨h1, fun _ => h6, h5, cs, hcs, hF⟩
  · subst h2
    exact ⟨h1, fun h => by first | exact absurd (show (1 : Int32) = 0 from h) (by decide) | exact absurd (show (2 : Int32) = 0 from h) (by decide), h0.still hE hF (by decide), [], by decide, hF⟩
  · exact absurd h2 hP
  · exact absurd h2 hQ
  · subst h2
    exact ⟨h1, fun h => by first | exact absurd (show (1 : Int32) = 0 from h) (by decide) | exact absurd (show (2 : Int32) = 0 from h) (by decide), h0.still hE hF (by decide), [], by decide, hF⟩
theorem coR {ra_ rb_ rc_ : Int32} (h0 : SR g L f (x0, wk, vs, cl, ru, va) sA) (hE : Ext L f L2 f2) (hcs : ∀ c ∈ cs, okcl c ∧ c ≠ (200, 30)) (h : (∃ v : Int32, r = some (.int 0) ∧ ((∃ z : Int32, some (Value.int v) = some (.int z)) ∧ Fr cs L f f2 ∧ ∃ (v2 : Int32) (s2 : AS), rnR ra_ rb_ rc_ sA (0, v2, s2) ∧ some (Value.int v) = some (.int v2) ∧ SR g L2 f2 (x0, wk, vs, cl, ru, va) s2) ∧ fo = v.toInt64) ∨ (r = some (.int 1) ∧ (P1 ∧ rnR ra_ rb_ rc_ sA (1, 0, sA)) ∧ Fr [] L f f2)) : ∃ o : OP, rnR ra_ rb_ rc_ sA o ∧ CO g L f L2 f2 (x0, wk, vs, cl, ru, va) o r fo := by
  rcases h with ⟨v, h1, ⟨-, hF, v2, s2, h3, h4, h5⟩, h6⟩ | ⟨h1, ⟨-, h2⟩, hF⟩
  · cases h4
    exact ⟨_, h3, h1, fun _ => h6, h5, cs, hcs, hF⟩
  · exact ⟨_, h2, h1, fun h => absurd (show (1 : Int32) = 0 from h) (by decide), h0.still hE hF (by decide), [], by decide, hF⟩
/-- both sides have done the call -/
theorem both_op {K KA_ : List Nat} {z zb y0 : Int32} (hI : LI g ((x0, rdr, tok, tp, ka, sta, vaa), (wk, vs, cl, ru, va), (pl, tvr, tc, tv), rc) B L f i a) (hW : WT g L2 f2) (hE : Ext L f L2 f2) (hc : CO g L f L2 f2 (x0, wk, vs, cl, ru, va) spec (some (.int z)) fo) (hG : GI B2 spec.2.2) (hfx : Eqx K spec.2.2.1 i ∧ Eqx KA_ spec.2.2.2 a) (m0 : y0 = spec.1) (m1 : spec.1 = 0 → some (Value.int zb) = some (.int spec.2.1)) (e1 : Eqx (0 :: K) i2 i) (e2 : Eqx KA_ a2 a) (k1 : ∀ k ∈ K, i2 k = spec.2.2.1 k) (k2 : ∀ k ∈ KA_, a2 k = spec.2.2.2 k) (hK : ∀ k ∈ [20, 23, 24, 46], k ∉ K) (hKA : ∀ k ∈ KA_, k < 19) : y0 = z ∧ (z = 0 → fo = zb.toInt64) ∧ LI g ((x0, rdr, tok, tp, ka, sta, vaa), (wk, vs, cl, ru, va), (pl, tvr, tc, tv), rc) B2 L2 f2 i2 a2 := by
  obtain ⟨c1, c2, c3, cs, c4, c5⟩ := hc
  have ez : z = spec.1 := by cases c1; rfl
  refine ⟨by rw [m0, ez], fun h => ?_, ?_⟩
  · rw [ez] at h
    have h2 := m1 h
    rw [c2 h]
    cases h2
    rfl
  · have a9 := hI.1.at 9 rfl
    refine hI.op hW hE c5 (fun c hm => (c4 c hm).1) c3 hG (eqx_i hfx.1 e1 k1) (eqx_a hfx.2 e2 k2) (fun j hj => hfx.1 j (hK j hj)) (fun j hj => hfx.2 j (fun m => by have := hKA j m; omega)) (fun k => ?_)
    rw [ra_eq (c5.2 cl a9.1 1 _ _ a9.2 (fun m => (c4 _ m).2 rfl))]
    exact hI.2.1.2.1.2.2.2.2.2 k
/-- other numbers and rows that say the same -/
theorem LI.cg (hI : LI g ((x0, rdr, tok, tp, ka, sta, vaa), (wk, vs, cl, ru, va), (pl, tvr, tc, tv), rc) B L f i a) (e1 : ∀ j ∈ [1, 2, 3, 12, 20, 23, 24, 37, 39, 40, 41, 42, 43, 44, 45], i2 j = i j) (h46 : (i2 46).toInt ≤ 3) (e2 : ∀ j : Nat, j < 36 → a2 j = a j) : LI g ((x0, rdr, tok, tp, ka, sta, vaa), (wk, vs, cl, ru, va), (pl, tvr, tc, tv), rc) B L f i2 a2 := by
  obtain ⟨b1, ⟨⟨b2, tt, b3, b4⟩, ⟨b5, b6, b7⟩, b8⟩, b9, b10, b11, b12⟩ := hI
  refine ⟨b1, ⟨⟨b2, tt, by rw [e1 20 (by decide), e1 23 (by decide), e1 24 (by decide)]; exact b3, fun p hp => ?_⟩, ⟨b5.st (fun j hj => e1 j (by revert j; decide)) (fun j hj => e2 j (by omega)), b6, b7⟩, fun r hr => ?_⟩, b9.th (e1 12 (by decide)) (e1 1 (by decide)) (fun j hj => e2 j (by omega)), by rw [e1 20 (by decide)]; exact b10, by rw [e2 26 (by omega), e2 27 (by omega), e2 31 (by omega), e2 32 (by omega), e2 33 (by omega), e2 34 (by omega), e2 35 (by omega)]; exact b11, h46⟩
  · rw [e1 20 (by decide)] at hp
    rw [e2 19 (by omega)]
    exact b4 p hp
  · exact (b8 r hr).go (fun b hb => ⟨hb, rfl⟩) OF.rf OF.rf rfl (by show a2 34 r = a 34 r; rw [e2 34 (by omega)]) (fun j k _ _ hj h => by show a2 j k = a j k; rw [e2 j (by omega)])
/-- a call of the class that leaves the state -/
theorem LI.still (hI : LI g ((x0, rdr, tok, tp, ka, sta, vaa), (wk, vs, cl, ru, va), (pl, tvr, tc, tv), rc) B L f i a) (hW : WT g L2 f2) (hE : Ext L f L2 f2) (hF : Fr cs L f f2) (hcs : ∀ c ∈ cs, okcl c ∧ c ≠ (200, 30)) (hS : SR g L2 f2 (x0, wk, vs, cl, ru, va) (i, a)) : LI g ((x0, rdr, tok, tp, ka, sta, vaa), (wk, vs, cl, ru, va), (pl, tvr, tc, tv), rc) B L2 f2 i a := by
  have a9 := hI.1.at 9 rfl
  refine hI.op hW hE hF (fun c hm => (hcs c hm).1) hS hI.2.2.1 (fun _ _ => rfl) rfl (fun _ _ => rfl) (fun _ _ => rfl) (fun k => ?_)
  rw [ra_eq (hF.2 cl a9.1 1 _ _ a9.2 (fun m => (hcs _ m).2 rfl))]
  exact hI.2.1.2.1.2.2.2.2.2 k
/-- cloth -/
theorem LI.clo {z9 zb y0 y12 : Int32} {y13 : Nat → Int32} {w : Int32} (hI : LI g ((x0, rdr, tok, tp, ka, sta, vaa), (wk, vs, cl, ru, va), (pl, tvr, tc, tv), rc) B L f i a) (hW : WT g L2 f2) (hE : Ext L f L2 f2) (hF : Fr cs L f f2) (hcs : ∀ c ∈ cs, okcl c) (hc : ∃ (v : Int32) (s2 : AS), clS w (i, a) = (0, v, s2) ∧ some (Value.int z9) = some (.int v) ∧ SR g L2 f2 (x0, wk, vs, cl, ru, va) s2) (hr : ∀ k : Nat, ra f2 cl k = ra f cl k ∨ ∃ q : Nat, q ∉ L ∧ ra f2 cl k = some q) (hm : y0 = (clS w (i, a)).1 ∧ ((clS w (i, a)).1 = 0 → some (Value.int zb) = some (.int (clS w (i, a)).2.1)) ∧ y12 = (clS w (i, a)).2.2.1 12 ∧ y13 = (clS w (i, a)).2.2.2 13) : LI g ((x0, rdr, tok, tp, ka, sta, vaa), (wk, vs, cl, ru, va), (pl, tvr, tc, tv), rc) B L2 f2 (va_up (va_up i 0 y0) 12 y12) (va_up a 13 y13) := by
  obtain ⟨v, s2, h1, -, h3⟩ := hc
  obtain ⟨-, -, m2, m3⟩ := hm
  have fx := fx_cl (w := w) (s := (i, a))
  have hG := hI.2.2.1.cl (w := w)
  rw [h1] at fx hG m2 m3
  have a13 := hI.1.at 13 rfl
  refine hI.op hW hE hF hcs h3 hG (eqx_i fx.1 (Eqx.up (by decide) (Eqx.up (by decide) Eqx.rf)) ?_) (eqx_a fx.2 (Eqx.up (by decide) Eqx.rf) ?_) (fun j hj => fx.1 j (by revert j; decide)) (fun j hj => fx.2 j (fun m => by have := List.mem_singleton.mp m; omega)) (fun k => ?_)
  · intro k hk
    obtain rfl := List.mem_singleton.mp hk
    exact m2
  · intro k hk
    obtain rfl := List.mem_singleton.mp hk
    exact m3
  · rcases hr k with h | ⟨q, hq, h⟩
    · rw [h]; exact hI.2.1.2.1.2.2.2.2.2 k
    · rw [h]
      intro e
      cases e
      exact hq a13.1
/-- run -/
theorem both_run {p0 p1 p2 z zb y0 y1 y2 y39 y40 y41 y42 y43 y44 y45 : Int32} {y4 y5 y6 y7 y8 y9 y10 y11 y14 y15 y17 y18 : Nat → Int32} {V : Nat → Prop} (hI : LI g ((x0, rdr, tok, tp, ka, sta, vaa), (wk, vs, cl, ru, va), (pl, tvr, tc, tv), rc) B L f i a) (hB : B ≤ 9000000) (hW : WT g L2 f2) (hE : Ext L f L2 f2) (hc : ∃ o : OP, rnR p0 p1 p2 (va_up i 0 0, a) o ∧ CO g L f L2 f2 (x0, wk, vs, cl, ru, va) o (some (.int z)) fo) (hNV : NV V (i, a)) (hlV : 0 ≤ p0.toInt → p0.toInt < 8 → ¬ a 34 p0.toNatClampNeg = -1 → lkV V (fiX (i, a) p0)) (hm : ∃ o9 : OP, rnR p0 p1 p2 (va_up i 0 0, a) o9 ∧ y0 = o9.1 ∧ (o9.1 = 0 → some (Value.int zb) = some (.int o9.2.1)) ∧ H01 y10 ∧ y39 = o9.2.2.1 39 ∧ y44 = o9.2.2.1 44 ∧ y45 = o9.2.2.1 45 ∧ y1 = o9.2.2.1 1 ∧ y2 = o9.2.2.1 2 ∧ y40 = o9.2.2.1 40 ∧ y41 = o9.2.2.1 41 ∧ y42 = o9.2.2.1 42 ∧ y43 = o9.2.2.1 43 ∧ y4 = o9.2.2.2 4 ∧ y5 = o9.2.2.2 5 ∧ y6 = o9.2.2.2 6 ∧ y7 = o9.2.2.2 7 ∧ y8 = o9.2.2.2 8 ∧ y9 = o9.2.2.2 9 ∧ y10 = o9.2.2.2 10 ∧ y11 = o9.2.2.2 11 ∧ y14 = o9.2.2.2 14 ∧ y15 = o9.2.2.2 15 ∧ y17 = o9.2.2.2 17 ∧ y18 = o9.2.2.2 18)
    (e1 : Eqx (0 :: KN9) i2 i) (e2 : Eqx KA a2 a) (q : i2 1 = y1 ∧ i2 2 = y2 ∧ i2 39 = y39 ∧ i2 40 = y40 ∧ i2 41 = y41 ∧ i2 42 = y42 ∧ i2 43 = y43 ∧ i2 44 = y44 ∧ i2 45 = y45 ∧ a2 4 = y4 ∧ a2 5 = y5 ∧ a2 6 = y6 ∧ a2 7 = y7 ∧ a2 8 = y8 ∧ a2 9 = y9 ∧ a2 10 = y10 ∧ a2 11 = y11 ∧ a2 14 = y14 ∧ a2 15 = y15 ∧ a2 17 = y17 ∧ a2 18 = y18) : y0 = z ∧ (z = 0 → fo = zb.toInt64) ∧ LI g ((x0, rdr, tok, tp, ka, sta, vaa), (wk, vs, cl, ru, va), (pl, tvr, tc, tv), rc) (B + 5000) L2 f2 i2 a2 := by
  obtain ⟨o, ho, hco⟩ := hc
  obtain ⟨o9, ho9, m0, m1, h01, m39, m44, m45, n1, n2, n40, n41, n42, n43, r4, r5, r6, r7, r8, r9, r10, r11, r14, r15, r17, r18⟩ := hm
  have e := ho.one ho9
  subst e
  obtain ⟨q1, q2, q39, q40, q41, q42, q43, q44, q45, s4, s5, s6, s7, s8, s9, s10, s11, s14, s15, s17, s18⟩ := q
  have fx := fx_rn ho
  have hG0 : GI B (va_up i 0 0, a) := hI.2.2.1.th rfl rfl (fun _ _ => rfl)
  have hN0 : NV V (va_up i 0 0, a) := hNV
  have hG : GI (B + 5000) o.2.2 := hG0.rn hB ho hN0 (by
    by_cases hn : rnN p0 p1 p2 (va_up i 0 0, a)
    · exact Or.inl hn
    · have c0 : ¬ p0 < 0 := fun h => hn (Or.inl h)
      have c8 : ¬ 8 ≤ p0 := fun h => hn (Or.inr (Or.inl h))
      have cm : ¬ a 34 p0.toNatClampNeg = -1 := fun h => hn (Or.inr (Or.inr (Or.inr (Or.inr (Or.inl h)))))
      rw [Int32.lt_iff_toInt_lt] at c0
      rw [Int32.le_iff_toInt_le] at c8
      have z0 : (0 : Int32).toInt = 0 := by decide
      have z8 : (8 : Int32).toInt = 8 := by decide
      exact Or.inr (hlV (by omega) (by omega) cm)) (by rw [← r10]; exact h01)
  have hfx : Eqx (0 :: KN9) o.2.2.1 i ∧ Eqx KA o.2.2.2 a := ⟨Eqx.tr (g := va_up i 0 0) (Eqx.up (by decide) Eqx.rf) (fx.1.mo (fun k hk => List.mem_cons_of_mem _ hk)), fx.2⟩
  obtain ⟨c1, c2, c3, cs, c4, c5⟩ := hco
  have ez : z = o.1 := by cases c1; rfl
  refine ⟨by rw [m0, ez], fun h => ?_, ?_⟩
  · rw [ez] at h
    have h2 := m1 h
    rw [c2 h]
    cases h2
    rfl
  · have a9 := hI.1.at 9 rfl
    refine hI.op hW hE c5 (fun c hm => (c4 c hm).1) c3 hG (fun j hj => ?_) (eqx_a hfx.2 e2 ?_) (fun j hj => hfx.1 j (by revert j; decide)) (fun j hj => hfx.2 j (fun m => by simp only [KA, List.mem_cons, List.not_mem_nil, or_false] at m; omega)) (fun k => ?_)
    · by_cases hk : j ∈ KN9
      · simp only [KN9, List.mem_cons, List.not_mem_nil, or_false] at hk
        rcases hk with rfl | rfl | rfl | rfl | rfl | rfl | rfl | rfl | rfl
        · exact q1.trans n1
        · exact q2.trans n2
        · exact q39.trans m39
        · exact q40.trans n40
        · exact q41.trans n41
        · exact q42.trans n42
        · exact q43.trans n43
        · exact q44.trans m44
        · exact q45.trans m45
      · have hj2 : j ∉ (0 :: KN9) := fun m => (List.mem_cons.mp m).elim hj hk
        rw [e1 j hj2, hfx.1 j hj2]
    · intro k hk
      simp only [KA, List.mem_cons, List.not_mem_nil, or_false] at hk
      rcases hk with rfl | rfl | rfl | rfl | rfl | rfl | rfl | rfl | rfl | rfl | rfl | rfl
      · exact s4.trans r4
      · exact s5.trans r5
      · exact s6.trans r6
      · exact s7.trans r7
      · exact s8.trans r8
      · exact s9.trans r9
      · exact s10.trans r10
      · exact s11.trans r11
      · exact s14.trans r14
      · exact s15.trans r15
      · exact s17.trans r17
      · exact s18.trans r18
    · rw [ra_eq (c5.2 cl a9.1 1 _ _ a9.2 (fun m => (c4 _ m).2 rfl))]
      exact hI.2.1.2.1.2.2.2.2.2 k
/-- put -/
theorem LI.put {y20 : Int32} {y19 : Nat → Int32} (hI : LI g ((x0, rdr, tok, tp, ka, sta, vaa), (wk, vs, cl, ru, va), (pl, tvr, tc, tv), rc) B L f i a) (hW : WT g L2 f2) (hE : Ext L f L2 f2) (hF : Fr [(9, 5), (100, 1500)] L f f2) (hpb : ∃ tt : Nat → Int32, CN (x0, rdr, tok, tp, ka, sta, vaa) f2 y20 (i 23) (i 24) tt ∧ ∀ p : Nat, (p : Int) < y20.toInt → agb (tt p) (y19 p)) (ht : 0 ≤ y20.toInt ∧ y20.toInt ≤ 1500) (h20 : i2 20 = y20) (h19 : a2 19 = y19) (e1 : ∀ j : Nat, j ≠ 0 → j ≠ 20 → i2 j = i j) (e2 : ∀ j : Nat, j ≠ 19 → a2 j = a j) : LI g ((x0, rdr, tok, tp, ka, sta, vaa), (wk, vs, cl, ru, va), (pl, tvr, tc, tv), rc) B L2 f2 i2 a2 := by
  obtain ⟨hT, ⟨⟨hRF, -⟩, ⟨hSR, h7, ⟨p1, p2, p3, p4⟩, q1, q2, q3⟩, hTE⟩, hG, -, hBI, hkp⟩ := hI
  have hT7 : TP g L f (RLs g (x0, rdr, tok, tp, ka, sta, vaa)) := hT.sub [0, 1, 2, 3, 4, 5, 6] rfl
  have a0 := hT.at 0 rfl
  have a9 := hT.at 9 rfl
  have a11 := hT.at 11 rfl
  have a12 := hT.at 12 rfl
  have a14 := hT.at 14 rfl
  obtain ⟨tt, hCN, hag⟩ := hpb
  refine ⟨hT.go hE hW, ⟨⟨hRF.fr hT7 hF (by decide), tt, by rw [h20, e1 23 (by decide) (by decide), e1 24 (by decide) (by decide)]; exact hCN, fun p hp => by rw [h20] at hp; rw [h19]; exact hag p hp⟩, ⟨(hSR.still hE hF (by decide)).st (fun j hj => e1 j (by revert j; decide) (by revert j; decide)) (fun j hj => e2 j (by omega)), (hF.1 x0 a0.1 9 a0.2 7 (by decide)).trans h7, ⟨(hF.1 x0 a0.1 9 a0.2 10 (by decide)).trans p1, (hF.1 pl a11.1 1 a11.2 1 (by decide)).trans p2, (hF.1 pl a11.1 1 a11.2 2 (by decide)).trans p3, (hF.1 pl a11.1 1 a11.2 0 (by decide)).trans p4⟩, fun k hk => by rw [ra_eq (hF.2 tvr a12.1 1 _ _ a12.2 (by decide))]; exact q1 k hk, q2, fun k => by rw [ra_eq (hF.2 cl a9.1 1 _ _ a9.2 (by decide))]; exact q3 k⟩, fun r hr => ?_⟩, hG.th (e1 12 (by decide) (by decide)) (e1 1 (by decide) (by decide)) (fun j hj => e2 j (by omega)), by rw [h20]; exact ht, by rw [e2 26 (by omega), e2 27 (by omega), e2 31 (by omega), e2 32 (by omega), e2 33 (by omega), e2 34 (by omega), e2 35 (by omega)]; exact hBI, by rw [e1 46 (by decide) (by decide)]; exact hkp⟩
  exact (hTE r hr).go hE (OF.fr hF (by decide)) (OF.fr hF (by decide)) (by rw [ra_eq (hF.2 rc a14.1 1 _ _ a14.2 (by decide))]) (by show a2 34 r = a 34 r; rw [e2 34 (by omega)]) (fun j k _ _ hj _ => by show a2 j k = a j k; rw [e2 j (by omega)])
/-- recipe -/
theorem SR.rcp {x : Int32} {s : AS} (h : SR g L f (x0, wk, vs, cl, ru, va) s) (hE : Ext L f L2 f2) (hF : Fr [(2, 1), (2, 2), (2, 3), (2, 4), (2, 5), (5, 1), (5, 2), (5, 3), (5, 4), (5, 5), (5, 6), (5, 7), (6, 1), (6, 2), (6, 3), (3, 0), (9, 5), (9, 8), (100, 1501), (200, 8)] L f f2) (h8 : rd f2 x0 8 = .int x) : SR g L2 f2 (x0, wk, vs, cl, ru, va) (va_up s.1 37 x, s.2) := by
  obtain ⟨p1, p2, p3⟩ := h.parts hE hF (by decide) (by decide)
  have hm := h.1.1.1
  have hn := h.2.2.2.2.1
  exact ⟨p1, h.2.1.same hE p2 (OF.fr hF (by decide)) rfl (fun _ _ _ => rfl), h.2.2.1.same hE p3 (OF.fr hF (by decide)) rfl (fun _ _ _ _ => rfl), h.wn hF (by decide) rfl rfl, ⟨(hF.1 x0 hm.1 9 hm.2 2 (by decide)).trans hn.1, (hF.1 x0 hm.1 9 hm.2 3 (by decide)).trans hn.2.1, h8⟩, h.rn hF (by decide) (fun j h1 h2 => va_up_ne _ _ (by omega))⟩
theorem fiN_ne {r n : Nat} (hr : r < 8) : ¬ fiN r n = -1 := by
  unfold fiN
  by_cases e : n = 0
  · rw [if_pos e]; decide
  · rw [if_neg e]; exact nI_m1 (by omega)
theorem LI.rcp9 {p0 p1 z zb : Int32} {tt : Nat → Int32} (hI : LI g ((x0, rdr, tok, tp, ka, sta, vaa), (wk, vs, cl, ru, va), (pl, tvr, tc, tv), rc) B L f i a) (hW : WT g L2 f2) (hE : Ext L f L2 f2) (hCN : CN (x0, rdr, tok, tp, ka, sta, vaa) f (i 20) (i 23) (i 24) tt) (hag : ∀ p : Nat, (p : Int) < (i 20).toInt → agb (tt p) (a 19 p))
    (hc : (∃ v : Int32, some (Value.int z) = some (.int 0) ∧ ((∃ z9 : Int32, some (Value.int v) = some (.int z9)) ∧ Fr [(2, 1), (2, 2), (2, 3), (2, 4), (2, 5), (5, 1), (5, 2), (5, 3), (5, 4), (5, 5), (5, 6), (5, 7), (6, 1), (6, 2), (6, 3), (3, 0), (9, 5), (9, 8), (100, 1501), (200, 8)] L f f2 ∧ ∃ tl2 : Int32, ∃ fa2 : Int32, ∃ pw2 : Int32, ∃ sr2 : Int32, rd f2 x0 5 = .int tl2 ∧ rd f2 rdr 3 = .int fa2 ∧ rd f2 rdr 4 = .int pw2 ∧ rd f2 x0 8 = .int sr2 ∧ (Cq p0 p1 (i 20) ∧ tl2 = 0) ∧ (True) ∧ (True) ∧ (True) ∧ (OF 3 [] L f f2 ∧ OF 5 [] L f f2 ∧ (∃ (ln : Nat) (qn : SG) (TN : TT) (aN : Nat → Nat), p1 = nI ln ∧ ln ≤ 1500 ∧ Ev (Kp tt ln) (Vp tt ln) (nq tt ln) 0 0 (Sj tt ln 0, 0, 0, -1) qn ∧ fa2 = (gpa (Kp tt ln) (nq tt ln) 0 qn).2.2.1 ∧ pw2 = (gpa (Kp tt ln) (nq tt ln) 0 qn).2.2.2 ∧ some (Value.int v) = some (.int fa2) ∧ ((¬ fa2 = 0 ∧ f2 rc = f rc ∧ sr2 = i 37) ∨ (fa2 = 0 ∧ sr2 = nI qn.2.1 ∧ qn.2.1 ≤ 300 ∧ ∃ rb : Nat, (rb ∈ L2 ∧ sh (f2 rb) = (0, 3, 0)) ∧ ra f2 rc = va_up (ra f rc) p0.toNatClampNeg (some rb) ∧ rd f2 rb 0 = lkv aN (thd 0 qn.2.1) ∧ EvT (Kp tt ln) (Vp tt ln) (nq tt ln) 0 0 0 ((Sj tt ln 0, 0, 0, -1), fun _ _ => 0) (qn, TN) ∧ TRc (Kp tt ln) (Vp tt ln) (nq tt ln) L2 f2 aN TN qn.2.1))))) ∧ fo = v.toInt64) ∨ (some (Value.int z) = some (.int 1) ∧ (P1 ∧ ¬ Cq p0 p1 (i 20)) ∧ Fr [] L f f2))
    (hm : ((0 ≤ (i2 20).toInt ∧ (i2 20).toInt ≤ 1500) ∧ BI (a2 26) (a2 27) (a2 31) (a2 32) (a2 33) (a2 34) (a2 35)) ∧ ((¬ Cq p0 p1 (i 20) ∧ i2 0 = 1 ∧ i2 20 = (i 20) ∧ i2 23 = (i 23) ∧ i2 24 = (i 24) ∧ a2 34 = (a 34) ∧ a2 35 = (a 35) ∧ i2 37 = (i 37) ∧ a2 26 = (a 26) ∧ a2 27 = (a 27) ∧ a2 28 = (a 28) ∧ a2 29 = (a 29) ∧ a2 30 = (a 30) ∧ a2 31 = (a 31) ∧ a2 32 = (a 32) ∧ a2 33 = (a 33)) ∨ (Cq p0 p1 (i 20) ∧ i2 20 = 0 ∧ i2 0 = 0 ∧ ∃ (ln : Nat) (r1 : SG), p1 = nI ln ∧ ln ≤ 1500 ∧ Ev (Kp (a 19) ln) (Vp (a 19) ln) (nq (a 19) ln) 0 0 (sk (a 19) ln 0, 0, 0, -1) r1 ∧ i2 23 = (gpa (Kp (a 19) ln) (nq (a 19) ln) 0 r1).2.2.1 ∧ i2 24 = (gpa (Kp (a 19) ln) (nq (a 19) ln) 0 r1).2.2.2 ∧ some (Value.int zb) = some (.int (i2 23)) ∧ ((¬ i2 23 = 0 ∧ a2 34 = (a 34) ∧ i2 37 = (i 37) ∧ BK8 (a 26) (a 27) (a 28) (a 29) (a 30) (a 31) (a 32) (a 33) (a2 26) (a2 27) (a2 28) (a2 29) (a2 30) (a2 31) (a2 32) (a2 33)) ∨ (i2 23 = 0 ∧ ∃ TN : TT, EvT (Kp (a 19) ln) (Vp (a 19) ln) (nq (a 19) ln) 0 0 0 ((sk (a 19) ln 0, 0, 0, -1), (fun _ _ => 0)) (r1, TN) ∧ i2 37 = nI r1.2.1 ∧ a2 34 = upd (a 34) p0.toNatClampNeg (fiN p0.toNatClampNeg r1.2.1) ∧ TRr (Kp (a 19) ln) (Vp (a 19) ln) (nq (a 19) ln) TN (300 * p0.toNatClampNeg) r1.2.1 (a2 26) (a2 27) (a2 28) (a2 29) (a2 30) (a2 31) (a2 32) (a2 33) ∧ BKO p0.toNatClampNeg (a 26) (a 27) (a 28) (a 29) (a 30) (a 31) (a 32) (a 33) (a2 26) (a2 27) (a2 28) (a2 29) (a2 30) (a2 31) (a2 32) (a2 33))))))
    (e1 : ∀ j ∈ [1, 2, 3, 12, 39, 40, 41, 42, 43, 44, 45, 46], i2 j = i j) (e2 : ∀ j : Nat, j < 26 → a2 j = a j) : i2 0 = z ∧ (z = 0 → fo = zb.toInt64) ∧ LI g ((x0, rdr, tok, tp, ka, sta, vaa), (wk, vs, cl, ru, va), (pl, tvr, tc, tv), rc) B L2 f2 i2 a2 := by
  obtain ⟨hm1, hm2⟩ := hm
  have hT := hI.1
  have hT7 : TP g L f (RLs g (x0, rdr, tok, tp, ka, sta, vaa)) := hT.sub [0, 1, 2, 3, 4, 5, 6] rfl
  have hSR := hI.2.1.2.1.1
  have a3 := hT.at 3 rfl
  have a0 := hT.at 0 rfl
  have a9 := hT.at 9 rfl
  have a11 := hT.at 11 rfl
  have a12 := hT.at 12 rfl
  rcases hc with ⟨v, g0, ⟨-, hF, tl2, fa2, pw2, sr2, h5, h3, h4, h8, ⟨hq, rfl⟩, -, -, -, hO3, hO5, ln, qn, TN, aN, k1, k2, k3, k4, k5, k6, k7⟩, hfo⟩ | ⟨g0, ⟨-, hq⟩, hF⟩
  · obtain ⟨-, m20, m0, lm, r1, n1, n2, n3, n4, n5, n6, n7⟩ := hm2.resolve_left (fun h => h.1 hq)
    cases g0
    cases k6
    cases n6
    have e : ln = lm := by
      have := k1.symm.trans n1
      rwa [nI_eq (by omega) (by omega)] at this
    subst e
    have hg : ∀ p, p < ln → agb (tt p) (a 19 p) := fun p hp => hag p (by
      have ht := hq.2.2.2
      rw [k1, Int32.lt_iff_toInt_lt, nI_toInt (by omega)] at ht
      omega)
    have hs : Sj tt ln 0 = sk (a 19) ln 0 := sk_ag hg 0
    rw [Kp_ag hg, Vp_ag hg, nq_ag hg, hs] at k3 k7
    rw [Kp_ag hg, nq_ag hg] at k4 k5
    have e := k3.one n3
    subst e
    have ef : v = i2 23 := k4.trans n4.symm
    have ep : pw2 = i2 24 := k5.trans n5.symm
    subst ef
    subst ep
    refine ⟨m0, fun _ => hfo, ?_⟩
    have hCN2 : CN (x0, rdr, tok, tp, ka, sta, vaa) f2 (i2 20) (i2 23) (i2 24) tt := ⟨by rw [m20]; exact h5, h3, h4, (ia_eq (hF.2 tp a3.1 0 _ _ a3.2 (by decide))).trans hCN.2.2.2⟩
    obtain ⟨-, ⟨⟨hRF, -⟩, ⟨-, h7, ⟨p1, p2, p3, p4⟩, q1, q2, q3⟩, hTE⟩, hG, -, -, hkp⟩ := hI
    have hsr : sr2 = i2 37 := by
      rcases k7 with ⟨f0, -, j2⟩ | ⟨f0, j2, -⟩
      · rcases n7 with ⟨-, -, j3, -⟩ | ⟨f1, -⟩
        · rw [j2, j3]
        · exact absurd f1 f0
      · rcases n7 with ⟨f1, -⟩ | ⟨-, -, -, j3, -⟩
        · exact absurd f0 f1
        · rw [j2, j3]
    have hS2 : SR g L2 f2 (x0, wk, vs, cl, ru, va) (i2, a2) := (hSR.rcp hE hF h8).st (fun j hj => by
      by_cases e : j = 37
      · subst e; exact hsr.symm
      · refine (e1 j ?_).trans (va_up_ne _ _ e).symm
        simp only [KSR, List.mem_cons, List.not_mem_nil, or_false] at hj
        simp only [List.mem_cons, List.not_mem_nil, or_false]
        omega) (fun j hj => e2 j (by omega))
    have htr : ∀ r : Nat, r < 8 → TREb L2 f2 rc (i2, a2) r := by
      intro r hr
      rcases n7 with ⟨f1, j34, -, jb⟩ | ⟨f1, TM, j1, j2, j34, jt, jb⟩
      · obtain ⟨-, jr, -⟩ := k7.resolve_right (fun h => f1 h.1)
        refine (hTE r hr).go hE hO5 hO3 (by rw [ra_eq jr]) (by show a2 34 r = a 34 r; rw [j34]) (fun j k hk1 hk2 hj hj2 => ?_)
        obtain ⟨b1, b2, b3, b4, b5, b6, b7, b8⟩ := jb k (by omega)
        have : j = 26 ∨ j = 27 ∨ j = 28 ∨ j = 29 ∨ j = 30 ∨ j = 31 ∨ j = 32 ∨ j = 33 := by omega
        show a2 j k = a j k
        rcases this with rfl | rfl | rfl | rfl | rfl | rfl | rfl | rfl
        · exact b1
        · exact b2
        · exact b3
        · exact b4
        · exact b5
        · exact b6
        · exact b7
        · exact b8
      · obtain ⟨-, -, hn, rb, y1, y2, y3, y4, y5⟩ := k7.resolve_left (fun h => h.1 f1)
        have e := y4.one j1
        have e : TN = TM := congrArg Prod.snd e
        subst e
        have h8 := r8_of hq.1 hq.2.1
        by_cases er : r = p0.toNatClampNeg
        · subst er
          obtain ⟨δ, hGN, hδ⟩ := y4.ok (gpa_ok (n4.symm.trans f1)).1 rfl
          have e34 : a2 34 p0.toNatClampNeg = fiN p0.toNatClampNeg qn.2.1 := by rw [j34]; exact upd_at
          obtain ⟨w1, w2, w3, w4, w5⟩ := join (s := (i2, a2)) (fr := lkm (300 * p0.toNatClampNeg) (thd 0 qn.2.1)) (b := 300 * p0.toNatClampNeg) (by omega) hn y5 jt hGN hδ rfl
          refine Or.inr ⟨by show ¬ a2 34 _ = -1; rw [e34]; exact fiN_ne h8, rb, _, _, _, fun k hk => ⟨hk.1, by have := hk.2; omega⟩, by rw [y2]; exact va_up_self _ _ _, y1, ?_, w2, w3, w4, ?_⟩
          · show _ = lkr _ (if a2 34 p0.toNatClampNeg = -2 then -1 else a2 34 p0.toNatClampNeg)
            rw [e34, fi_lk h8, w1]
            exact y3
          · show lk _ _ 0 (if a2 34 p0.toNatClampNeg = -2 then -1 else a2 34 p0.toNatClampNeg)
            rw [e34, fi_lk h8]
            exact w5
        · refine (hTE r hr).go hE hO5 hO3 (by rw [y2]; exact va_up_ne _ _ er) (by show a2 34 r = a 34 r; rw [j34]; exact if_neg er) (fun j k hk1 hk2 hj hj2 => ?_)
          obtain ⟨b1, b2, b3, b4, b5, b6, b7, b8⟩ := jb k (by omega) (by omega)
          have : j = 26 ∨ j = 27 ∨ j = 28 ∨ j = 29 ∨ j = 30 ∨ j = 31 ∨ j = 32 ∨ j = 33 := by omega
          show a2 j k = a j k
          rcases this with rfl | rfl | rfl | rfl | rfl | rfl | rfl | rfl
          · exact b1
          · exact b2
          · exact b3
          · exact b4
          · exact b5
          · exact b6
          · exact b7
          · exact b8
    have e20 : (0 : Int32).toInt = 0 := by decide
    exact ⟨hT.go hE hW, ⟨⟨hRF.fr hT7 hF (by decide), tt, hCN2, fun p hp => by rw [m20] at hp; omega⟩, ⟨hS2, (hF.1 x0 a0.1 9 a0.2 7 (by decide)).trans h7, ⟨(hF.1 x0 a0.1 9 a0.2 10 (by decide)).trans p1, (hF.1 pl a11.1 1 a11.2 1 (by decide)).trans p2, (hF.1 pl a11.1 1 a11.2 2 (by decide)).trans p3, (hF.1 pl a11.1 1 a11.2 0 (by decide)).trans p4⟩, fun k hk => by rw [ra_eq (hF.2 tvr a12.1 1 _ _ a12.2 (by decide))]; exact q1 k hk, q2, fun k => by rw [ra_eq (hF.2 cl a9.1 1 _ _ a9.2 (by decide))]; exact q3 k⟩, htr⟩, hG.th (e1 12 (by decide)) (e1 1 (by decide)) (fun j hj => e2 j (by omega)), hm1.1, hm1.2, by rw [e1 46 (by decide)]; exact hkp⟩
  · obtain ⟨-, m0, m20, m23, m24, m34, m35, m37, m26, m27, m28, m29, m30, m31, m32, m33⟩ := hm2.resolve_right (fun h => hq h.1)
    cases g0
    refine ⟨m0, fun h => absurd h (by decide), LI.cg (hI.still hW hE hF (by decide) (hSR.still hE hF (by decide))) (fun j hj => ?_) (by rw [e1 46 (by decide)]; exact hI.2.2.2.2.2) (fun j hj => ?_)⟩
    · simp only [List.mem_cons, List.not_mem_nil, or_false] at hj
      rcases hj with rfl | rfl | rfl | rfl | rfl | rfl | rfl | rfl | rfl | rfl | rfl | rfl | rfl | rfl | rfl
      · exact e1 1 (by decide)
      · exact e1 2 (by decide)
      · exact e1 3 (by decide)
      · exact e1 12 (by decide)
      · exact m20
      · exact m23
      · exact m24
      · exact m37
      · exact e1 39 (by decide)
      · exact e1 40 (by decide)
      · exact e1 41 (by decide)
      · exact e1 42 (by decide)
      · exact e1 43 (by decide)
      · exact e1 44 (by decide)
      · exact e1 45 (by decide)
    · by_cases h : j < 26
      · exact e2 j h
      · have : j = 26 ∨ j = 27 ∨ j = 28 ∨ j = 29 ∨ j = 30 ∨ j = 31 ∨ j = 32 ∨ j = 33 ∨ j = 34 ∨ j = 35 := by omega
        rcases this with rfl | rfl | rfl | rfl | rfl | rfl | rfl | rfl | rfl | rfl <;> assumption
end LIS
