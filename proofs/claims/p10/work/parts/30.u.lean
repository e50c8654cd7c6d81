def LI (g : Nat → Nat) (h : HA) (L : List Nat) (f : Nat → va_E) (i : Nat → Int32) (a : Nat → Nat → Int32) : Prop := TP g L f (RLs g h) ∧ (RF h f ∧ AL h f i a) ∧ CI (i 12) (a 13) ∧ (0 ≤ (i 20).toInt ∧ (i 20).toInt ≤ 1500) ∧ BI (a 26) (a 27) (a 31) (a 32) (a 33) (a 34) (a 35) ∧ (i 46).toInt ≤ 3
theorem sc_in {z ii kk : Int32} {k t Ln : Nat} (ez : z = ii + kk) (hii : ii = nI (6 * t)) (hkk : kk = nI k) (hk : k < 6) (ht : 6 * t + 6 ≤ Ln) (hL : Ln ≤ 3072) : vp_in z Ln := by
  rw [ez, hii, hkk, nI_add]
  exact vp_in_nI (by omega) (by omega)
theorem sc_in0 {ii : Int32} {t Ln : Nat} (hii : ii = nI (6 * t)) (ht : 6 * t + 6 ≤ Ln) (hL : Ln ≤ 3072) : vp_in ii Ln := by
  rw [hii]
  exact vp_in_nI (by omega) (by omega)
theorem sc_go {ii z1 z2 : Int32} {t Ln : Nat} (hii : ii = nI (6 * t)) (e1 : z1 = nI Ln) (e2 : z2 = z1 - 6) (hL : Ln ≤ 3072) (ht : t ≤ 600) (h : ¬ z2 < ii) : 6 * t + 6 ≤ Ln := by
  have h1 := nlt_i h
  have e6 : (6 : Int32).toInt = 6 := by decide
  have e3 : z1.toInt = (Ln : Int) := by rw [e1]; exact nI_toInt (by omega)
  have e4 := sub_i e2 (by omega) (by omega)
  have e5 : ii.toInt = ((6 * t : Nat) : Int) := by rw [hii]; exact nI_toInt (by omega)
  omega
theorem lgc {a b : Int64} (h : a = b) : lg_cmp a b = 0 := by subst h; simp [lg_cmp]
theorem nI_ofI {t : Int32} (h : 0 ≤ t.toInt ∧ t.toInt ≤ 1500) : ∃ nn : Nat, t = nI nn ∧ nn ≤ 1500 ∧ (nn : Int) = t.toInt := by
  refine ⟨t.toInt.toNat, Int32.toInt_inj.mp ?_, by omega, by omega⟩
  rw [nI_toInt (by omega)]
  omega
theorem rc_both {h : HA} {f2 : Nat → va_E} {p0 p1 t0 z zb x0 x20 x23 x24 i23 i24 : Int32} {fo : Int64} {tt tm : Nat → Int32} (hag : ∀ p : Nat, (p : Int) < t0.toInt → agb (tt p) (tm p))
    (h1 : (Cq p0 p1 t0 ∧ some (Value.int z) = some (.int 0) ∧ ∃ fa2 pw2 : Int32, CN h f2 0 fa2 pw2 tt ∧ fo = fa2.toInt64 ∧ ∃ (ln : Nat) (qn : SG), p1 = nI ln ∧ ln ≤ 1500 ∧ Ev (Kp tt ln) (Vp tt ln) (nq tt ln) 0 0 (Sj tt ln 0, 0, 0, -1) qn ∧ fa2 = (gpa (Kp tt ln) (nq tt ln) 0 qn).2.2.1 ∧ pw2 = (gpa (Kp tt ln) (nq tt ln) 0 qn).2.2.2) ∨ (¬ Cq p0 p1 t0 ∧ some (Value.int z) = some (.int 1) ∧ CN h f2 t0 i23 i24 tt))
    (h2 : (¬ Cq p0 p1 t0 ∧ x20 = t0 ∧ x23 = i23 ∧ x24 = i24 ∧ x0 = 1) ∨ (Cq p0 p1 t0 ∧ x20 = 0 ∧ x0 = 0 ∧ ∃ (ln : Nat) (r1 : SG), p1 = nI ln ∧ ln ≤ 1500 ∧ Ev (Kp tm ln) (Vp tm ln) (nq tm ln) 0 0 (sk tm ln 0, 0, 0, -1) r1 ∧ x23 = (gpa (Kp tm ln) (nq tm ln) 0 r1).2.2.1 ∧ x24 = (gpa (Kp tm ln) (nq tm ln) 0 r1).2.2.2 ∧ some (Value.int zb) = some (.int x23))) :
    x0 = z ∧ (z = 0 → fo = zb.toInt64) ∧ ∃ tt' : Nat → Int32, CN h f2 x20 x23 x24 tt' ∧ ∀ p : Nat, (p : Int) < x20.toInt → agb (tt' p) (tm p) := by
  rcases h1 with ⟨g1, g2, fa2, pw2, g3, g4, ln, qn, g5, g6, g7, g8, g9⟩ | ⟨g1, g2, g3⟩
  · rcases h2 with ⟨k1, -⟩ | ⟨k1, k2, k3, lm, r1, k4, k5, k6, k7, k8, k9⟩
    · exact absurd g1 k1
    · obtain ⟨e1, e2⟩ := rd_same hag g5 k4 g6 k5 k1.2.2.2 g7 g8 g9 k6 k7 k8
      cases g2
      cases k9
      subst e1
      subst e2
      subst k2
      refine ⟨k3, fun _ => g4, tt, g3, fun p hp => ?_⟩
      have e0 : (0 : Int32).toInt = 0 := by decide
      omega
  · rcases h2 with ⟨k1, k2, k3, k4, k5⟩ | ⟨k1, -⟩
    · cases g2
      subst k2
      subst k3
      subst k4
      exact ⟨k5, fun e => absurd e (by decide), tt, g3, hag⟩
    · exact absurd k1 g1
theorem fa_both {p0 z zb x0 i23 i24 : Int32} {fo : Int64} (h1 : (p0 = 0 ∧ some (Value.int z) = some (.int 0) ∧ fo = i23.toInt64) ∨ (p0 = 1 ∧ some (Value.int z) = some (.int 0) ∧ fo = i24.toInt64) ∨ (¬ p0 = 0 ∧ ¬ p0 = 1 ∧ some (Value.int z) = some (.int 1)))
    (h2 : (p0 = 0 ∧ x0 = 0 ∧ some (Value.int zb) = some (.int i23)) ∨ (p0 = 1 ∧ x0 = 0 ∧ some (Value.int zb) = some (.int i24)) ∨ (¬ p0 = 0 ∧ ¬ p0 = 1 ∧ x0 = 1)) : x0 = z ∧ (z = 0 → fo = zb.toInt64) := by
  rcases h1 with ⟨g1, g2, g3⟩ | ⟨g1, g2, g3⟩ | ⟨g1, g2, g3⟩
  · rcases h2 with ⟨k1, k2, k3⟩ | ⟨k1, k2, k3⟩ | ⟨k1, k2, k3⟩
    · cases g2; cases k3; exact ⟨k2, fun _ => g3⟩
    · rw [g1] at k1; exact absurd k1 (by decide)
    · exact absurd g1 k1
  · rcases h2 with ⟨k1, k2, k3⟩ | ⟨k1, k2, k3⟩ | ⟨k1, k2, k3⟩
    · rw [g1] at k1; exact absurd k1 (by decide)
    · cases g2; cases k3; exact ⟨k2, fun _ => g3⟩
    · exact absurd g1 k2
  · rcases h2 with ⟨k1, k2, k3⟩ | ⟨k1, k2, k3⟩ | ⟨k1, k2, k3⟩
    · exact absurd k1 g1
    · exact absurd k1 g2
    · cases g3; exact ⟨k3, fun e => absurd e (by decide)⟩
theorem put_both {g : Nat → Nat} {x0 rdr tok tp ka sta vaa : Nat} {L : List Nat} {f f2 : Nat → va_E} {t0 fa pw tl x20 a1 a2 a3 a4 a5 : Int32} {tt tm y19 : Nat → Int32} (hT : TP g L f (RLs g (x0, rdr, tok, tp, ka, sta, vaa))) (ht : 0 ≤ t0.toInt ∧ t0.toInt ≤ 1500) (hCN : CN (x0, rdr, tok, tp, ka, sta, vaa) f t0 fa pw tt) (hag : ∀ p : Nat, (p : Int) < t0.toInt → agb (tt p) (tm p)) (hF : Fr [(9, 5), (100, 1500)] L f f2) (h5 : rd f2 x0 5 = .int tl)
    (h1 : ∀ nn : Nat, t0 = nI nn → nn ≤ 1500 → (nn ≤ 1480 → tl = nI (nn + 20) ∧ ia f2 tp = ap5 b8 (ia f tp) nn a1 a2 a3 a4 a5) ∧ (¬ nn ≤ 1480 → tl = t0 ∧ ia f2 tp = ia f tp))
    (h2 : ∀ nn : Nat, t0 = nI nn → nn ≤ 1500 → (nn ≤ 1480 → x20 = nI (nn + 20) ∧ y19 = ap5 bM tm nn a1 a2 a3 a4 a5) ∧ (¬ nn ≤ 1480 → x20 = t0 ∧ y19 = tm)) :
    ∃ tt' : Nat → Int32, CN (x0, rdr, tok, tp, ka, sta, vaa) f2 x20 fa pw tt' ∧ ∀ p : Nat, (p : Int) < x20.toInt → agb (tt' p) (y19 p) := by
  obtain ⟨nn, e1, e2, e3⟩ := nI_ofI ht
  have q1 := hT.at 1 rfl
  have k3 := (hF.1 rdr q1.1 2 q1.2 3 (by decide)).trans hCN.2.1
  have k4 := (hF.1 rdr q1.1 2 q1.2 4 (by decide)).trans hCN.2.2.1
  have hi : ia f tp = tt := hCN.2.2.2
  by_cases hn : nn ≤ 1480
  · obtain ⟨g1, g2⟩ := (h1 nn e1 e2).1 hn
    obtain ⟨g3, g4⟩ := (h2 nn e1 e2).1 hn
    subst g4
    refine ⟨_, ⟨by rw [g3, ← g1]; exact h5, k3, k4, rfl⟩, fun p hp => ?_⟩
    show agb (ia f2 tp p) _
    rw [g2, hi]
    refine ap5_ag (fun p hp => hag p (by omega)) p ?_
    rw [g3, nI_toInt (by omega)] at hp
    omega
  · obtain ⟨g1, g2⟩ := (h1 nn e1 e2).2 hn
    obtain ⟨g3, g4⟩ := (h2 nn e1 e2).2 hn
    subst g4
    refine ⟨_, ⟨by rw [g3, ← g1]; exact h5, k3, k4, rfl⟩, fun p hp => ?_⟩
    show agb (ia f2 tp p) _
    rw [g2, hi]
    rw [g3] at hp
    exact hag p hp
section SLD
variable {p : Program} {l : Launch} {e : Env} {R : Room} {s : State} {m : MethodId} {args : Array Value} {below : List Frame} {meth : Method} {c : Code} {H : Heap} {locs : List Loc} {cells slots : Nat} {Q : State → Prop}
variable {dC : Nat → ClassId} {dI : Nat → Nat → Nat} {tys : List (ClassId × FieldType)} {cc : ByteArray} {rest : List Value} {pc : Nat} {ls : Array Slot}
theorem N_lald (hx : p.tables.exec = Jvm.exec) (hb : c.code = cc) (hK : va_K (dC, dI) vwCl tys s) {u v : va_W} {ou : Nat} {co : ClassId} {fo : Nat → Int64} (hP : va_P (dC, dI) vwCl ((u ++ [(ou, .inl (co, 1, .inr (.inl fo)))]) ++ v) H) (t0 : Nat) (ht : tys[t0]? = some (co, .long)) (hdg : decode cc pc = .ok (.laload, 1))
    (kk : W p l e R s m args below meth c H locs cells slots Q (F0 m (pc + 1) ls (.long (fo 0) :: rest))) : W p l e R s m args below meth c H locs cells slots Q (F0 m pc ls (.int 0 :: .ref ou :: rest)) := by
  have hat : ((u ++ [(ou, (Sum.inl (co, 1, .inr (.inl fo)) : va_E))]) ++ v)[u.length]? = some (ou, .inl (co, 1, .inr (.inl fo))) := by simp
  exact va_lald hx hb hK hP u.length t0 hat ht (i := 0) (by unfold vp_in; decide) hdg kk
end SLD
theorem put_TI {o n z : Int32} (h : 0 ≤ o.toInt ∧ o.toInt ≤ 1500) (hp : (1480 < o.toInt ∧ z = -1 ∧ n = o) ∨ (o.toInt ≤ 1480 ∧ z = n ∧ n.toInt = o.toInt + 20)) : 0 ≤ n.toInt ∧ n.toInt ≤ 1500 := by
  rcases hp with ⟨-, -, h1⟩ | ⟨h1, -, h2⟩
  · rw [h1]; exact h
  · omega
theorem BI.run {kd on inr oth nx fi mn : Nat → Int32} (h : BI kd on inr oth nx fi mn) (rr : Int32) : ∃ (V : Nat → Prop) (dp : Nat → Nat), ND V dp kd on inr oth nx ∧ (0 ≤ rr.toInt → rr.toInt < 8 → fi rr.toNatClampNeg = -2 ∨ lk V dp 0 (fi rr.toNatClampNeg)) := by
  by_cases h1 : 0 ≤ rr.toInt ∧ rr.toInt < 8
  · obtain ⟨-, -, dp, h2, h3⟩ := h rr.toNatClampNeg (by have := clamp_i h1.1; omega)
    exact ⟨_, dp, h2, fun _ _ => h3⟩
  · exact ⟨fun _ => False, fun _ => 0, fun k hk => hk.elim, fun a b => absurd ⟨a, b⟩ h1⟩
theorem TP.num {g : Nat → Nat} {L : List Nat} {f : Nat → va_E} {x0 : Nat} (h : TP g L f [(x0, (0, 9, 0))]) : ∃ z : Int32, rd f x0 2 = .int z := by
  obtain ⟨ha, hs⟩ := h.at 0 rfl
  obtain ⟨fs, hf⟩ := sh_obj hs
  have ho := h.1.2 x0 ha
  rw [hf] at ho
  have hl : 2 < fs.length := by
    have h1 : fs.length = 11 := ho.1
    omega
  obtain ⟨z, hz⟩ := ho.2 2 tI fs[2] rfl (List.getElem?_eq_getElem hl)
  exact ⟨z, by simp [rd, hf, hl, hz]⟩

set_option maxHeartbeats 4000000 in
set_option maxRecDepth 100000 in
theorem lo_charge {p : Program} {l : Launch} {e : Env} {s : State} {m : MethodId} {below : List Frame} {meth : Method} {c : Code} {b Ln : Nat} {xs : Nat → Int32} (hlt : l.stackTraces = false) (C0 : lw_At p s m meth c b Ln xs) (hLn : Ln ≤ 3072) {dC : Nat → ClassId} {dI : Nat → Nat → Nat} {sa : Nat → Nat} (hev : ev sa (fun q : Nat => s.heap.size ≤ q) s s.heap) {x0 rdr tok tp ka sta vaa m0 ou : Nat} {co : ClassId} {g gm bm : Nat → Nat} (hK : va_K (dC, dI) vwCl (tyG g ++ [(co, .long)] ++ tyM gm) s) {L : List Nat} {f : Nat → va_E} {fo : Nat → Int64} {i : Nat → Int32} {a : Nat → Nat → Int32} {H : Heap} {locs : List Loc} {ls : Array Slot} {cells slots t : Nat} {ii : Int32} (hI : LI g (x0, rdr, tok, tp, ka, sta, vaa) L f i a) (hP : va_P (dC, dI) vwCl ((va_pl L f ++ [(ou, .inl (co, 1, .inr (.inl fo)))]) ++ mw gm m0 bm i a) H) (hD : va_D (fun q : Nat => s.heap.size ≤ q) ((va_pl L f ++ [(ou, .inl (co, 1, .inr (.inl fo)))]) ++ mw gm m0 bm i a)) (hS : va_S (fun q : Nat => s.heap.size ≤ q) s.heap H locs) (hl : lv_has ls 7 [(4, .int ii), (3, .ref ou), (2, .ref m0), (1, .ref x0), (0, .ref b)]) (hii : ii = nI (6 * t)) (ht : 6 * t + 6 ≤ Ln) (hc : cells + 303 ≤ 601024) (hs : slots + 2415 ≤ 7293034) (hk : ∀ (L2 : List Nat) (f2 : Nat → va_E) (fo2 : Nat → Int64) (i2 : Nat → Int32) (a2 : Nat → Nat → Int32) (H : Heap) (locs : List Loc) (ls : Array Slot), LI g (x0, rdr, tok, tp, ka, sta, vaa) L2 f2 i2 a2 → va_P (dC, dI) vwCl ((va_pl L2 f2 ++ [(ou, .inl (co, 1, .inr (.inl fo2)))]) ++ mw gm m0 bm i2 a2) H → va_D (fun q : Nat => s.heap.size ≤ q) ((va_pl L2 f2 ++ [(ou, .inl (co, 1, .inr (.inl fo2)))]) ++ mw gm m0 bm i2 a2) → va_S (fun q : Nat => s.heap.size ≤ q) s.heap H locs → lv_has ls 7 [(4, .int ii), (3, .ref ou), (2, .ref m0), (1, .ref x0), (0, .ref b)] → W p l e room_1 s m #[Value.ref b] below meth c H locs (cells + 303) (slots + 2415) (lw_Z below #[Value.ref b] s) (F0 m 938 ls [])) : W p l e room_1 s m #[Value.ref b] below meth c H locs cells slots (lw_Z below #[Value.ref b] s) (F0 m 132 ls []) := by
  obtain ⟨hx, hb, hr, hml, hown, hts, hX, hbl, hlocks, hgv⟩ := id C0
  have hown : s.vm.findClass RL = some m.cls := hown
  have hA : ∀ q : Nat, s.heap.size ≤ q → (fun q : Nat => s.heap.size ≤ q) q := fun _ h => h
  have hbA : ¬ (fun q : Nat => s.heap.size ≤ q) b := Nat.not_le.mpr hbl
  refine lv_aload_n hx hb dL_law_132 rfl (lv_at hl 3 rfl) ?_
  refine lv_aload_n hx hb dL_law_133 rfl (lv_at hl 4 rfl) ?_
  refine lv_iload hx hb dL_law_134 (lv_at hl 0 rfl) ?_
  refine lv_iconst (v := 1) hx hb dL_law_136 (by decide) ?_
  refine lv_iadd hx hb dL_law_137 ?_
  refine lv_topi (fun z_1 ez_1 => ?_)
  refine va_sld hx hb hX hbl hbA hS (sc_in ez_1 hii (by decide : (1 : Int32) = nI 1) (by decide) ht hLn) dL_law_138 ?_
  refine lv_topi (fun z_2 ez_2 => ?_)
  refine lv_aload_n hx hb dL_law_139 rfl (lv_at hl 4 rfl) ?_
  refine lv_iload hx hb dL_law_140 (lv_at hl 0 rfl) ?_
  refine lv_iconst (v := 2) hx hb dL_law_142 (by decide) ?_
  refine lv_iadd hx hb dL_law_143 ?_
  refine lv_topi (fun z_3 ez_3 => ?_)
  refine va_sld hx hb hX hbl hbA hS (sc_in ez_3 hii (by decide : (2 : Int32) = nI 2) (by decide) ht hLn) dL_law_144 ?_
  refine lv_topi (fun z_4 ez_4 => ?_)
  refine lv_aload_n hx hb dL_law_145 rfl (lv_at hl 1 rfl) ?_
  obtain ⟨tt, hCN, hag⟩ := hI.2.1.2
  refine NW_S (hh := [(0, 10, 13, 13)]) ⟨hx, hb, hml, hown, hts⟩ (w_charge l dC dI sa hlt g _ _ x0 rdr tok tp ka sta vaa ou co _ z_2 z_4 (i 20) (i 23) (i 24) tt _ hI.1 hI.2.1.1 hCN hI.2.2.2.1.2) (vx_cwSW 4 hts gL_law_L_charge rfl rfl rfl (by decide +kernel) ⟨Nat.le_of_ble_eq_true rfl, Nat.le_of_ble_eq_true rfl⟩) hP hD (hK.sub [0, 1, 2, 3, 4, 5, 6, 7, 8, 9, 10, 11] rfl) hS hA hev rfl hl.1 rfl (Nat.le_of_ble_eq_true rfl) dL_law_146 ⟨by show _ + 1 ≤ 601024; omega, by show _ + 6 ≤ 7293034; omega⟩ (fun r u H locs hw hP hD hS => ?_)
  obtain ⟨⟨L2, f2⟩, fo2⟩ := u
  have hw : (∃ z : Int32, r = some (.int z)) ∧ WT g L2 f2 ∧ Ext L f L2 f2 ∧ RF (x0, rdr, tok, tp, ka, sta, vaa) f2 ∧ CN (x0, rdr, tok, tp, ka, sta, vaa) f2 (i 20) (i 23) (i 24) tt := hw
  obtain ⟨⟨z_5, rfl⟩, hW2, hE2, hRF2, hCN2⟩ := hw
  have hT2 := hI.1.go hE2 hW2
  have hP : va_P (dC, dI) vwCl ((va_pl L2 f2 ++ [(ou, .inl (co, 1, .inr (.inl fo2)))]) ++ mw gm m0 bm i a) _ := hP
  have hD : va_D _ ((va_pl L2 f2 ++ [(ou, .inl (co, 1, .inr (.inl fo2)))]) ++ mw gm m0 bm i a) := hD
  refine W.eq (g2 := F0 m 149 ls [.int z_5]) rfl ?_
  refine lv_istore (lv' := [(5, .int z_5), (4, .int ii), (3, .ref ou), (2, .ref m0), (1, .ref x0), (0, .ref b)]) hx hb dL_law_149 hl (by decide) rfl (fun ls hl => ?_)
  refine lv_aload_n hx hb dL_law_151 rfl (lv_at hl 3 rfl) ?_
  refine lv_aload_n hx hb dL_law_152 rfl (lv_at hl 5 rfl) ?_
  refine lv_iload hx hb dL_law_153 (lv_at hl 1 rfl) ?_
  refine lv_iconst (v := 1) hx hb dL_law_155 (by decide) ?_
  refine lv_iadd hx hb dL_law_156 ?_
  refine lv_topi (fun z_6 ez_6 => ?_)
  refine va_sld hx hb hX hbl hbA hS (sc_in ez_6 hii (by decide : (1 : Int32) = nI 1) (by decide) ht hLn) dL_law_157 ?_
  refine lv_topi (fun z_7 ez_7 => ?_)
  refine lv_aload_n hx hb dL_law_158 rfl (lv_at hl 5 rfl) ?_
  refine lv_iload hx hb dL_law_159 (lv_at hl 1 rfl) ?_
  refine lv_iconst (v := 2) hx hb dL_law_161 (by decide) ?_
  refine lv_iadd hx hb dL_law_162 ?_
  refine lv_topi (fun z_8 ez_8 => ?_)
  refine va_sld hx hb hX hbl hbA hS (sc_in ez_8 hii (by decide : (2 : Int32) = nI 2) (by decide) ht hLn) dL_law_163 ?_
  refine lv_topi (fun z_9 ez_9 => ?_)
  refine NV_V ⟨hx, hb, hml, hown, hts⟩ (m_X10_charge l dC dI sa gm m0 bm i a z_7 z_9 _ ) (cwV 2 hts gL_law_X10_charge rfl rfl rfl (by decide +kernel) ⟨Nat.le_of_ble_eq_true rfl, Nat.le_of_ble_eq_true rfl⟩) hP hD (hK.sub [12, 13, 14, 15, 16, 17, 18, 19, 20, 21, 22, 23, 24, 25, 26, 27, 28, 29, 30, 31, 32, 33, 34, 35, 36, 37, 38, 39, 40] rfl) hS hA hev rfl rfl rfl rfl hl.1 rfl (Nat.le_of_ble_eq_true rfl) dL_law_164 ⟨by show _ + 0 ≤ 601024; omega, by show _ + 0 ≤ 7293034; omega⟩ (fun r u H locs hw hP hD hS => ?_)
  obtain ⟨x0_10, x3_11, y4_12⟩ := u
  have hw : (∃ z : Int32, r = some (.int z)) ∧ (True) := hw
  obtain ⟨⟨z_13, rfl⟩, hwP⟩ := hw
  have hP : va_P (dC, dI) vwCl ((va_pl L2 f2 ++ [(ou, .inl (co, 1, .inr (.inl fo2)))]) ++ mw gm m0 bm (va_up (va_up i 0 x0_10) 3 x3_11) (va_up a 4 y4_12)) _ := hP
  have hD : va_D _ ((va_pl L2 f2 ++ [(ou, .inl (co, 1, .inr (.inl fo2)))]) ++ mw gm m0 bm (va_up (va_up i 0 x0_10) 3 x3_11) (va_up a 4 y4_12)) := hD
  refine W.eq (g2 := F0 m 167 ls [.int z_13]) rfl ?_
  refine lv_istore (lv' := [(6, .int z_13), (5, .int z_5), (4, .int ii), (3, .ref ou), (2, .ref m0), (1, .ref x0), (0, .ref b)]) hx hb dL_law_167 hl (by decide) rfl (fun ls hl => ?_)
  refine lv_goto (tgt := 938) hx hb dL_law_169 (by decide) ?_
  exact W.widen (by omega) (by omega) (hk L2 f2 fo2 (va_up (va_up i 0 x0_10) 3 x3_11) (va_up a 4 y4_12) _ _ _ ⟨hT2, ⟨hRF2, tt, hCN2, hag⟩, hI.2.2.1, hI.2.2.2.1, hI.2.2.2.2.1, hI.2.2.2.2.2⟩ hP hD hS (lv_sub hl [2, 3, 4, 5, 6] rfl))

set_option maxHeartbeats 4000000 in
set_option maxRecDepth 100000 in
theorem lo_feed {p : Program} {l : Launch} {e : Env} {s : State} {m : MethodId} {below : List Frame} {meth : Method} {c : Code} {b Ln : Nat} {xs : Nat → Int32} (hlt : l.stackTraces = false) (C0 : lw_At p s m meth c b Ln xs) (hLn : Ln ≤ 3072) {dC : Nat → ClassId} {dI : Nat → Nat → Nat} {sa : Nat → Nat} (hev : ev sa (fun q : Nat => s.heap.size ≤ q) s s.heap) {x0 rdr tok tp ka sta vaa m0 ou : Nat} {co : ClassId} {g gm bm : Nat → Nat} (hK : va_K (dC, dI) vwCl (tyG g ++ [(co, .long)] ++ tyM gm) s) {L : List Nat} {f : Nat → va_E} {fo : Nat → Int64} {i : Nat → Int32} {a : Nat → Nat → Int32} {H : Heap} {locs : List Loc} {ls : Array Slot} {cells slots t : Nat} {ii : Int32} (hI : LI g (x0, rdr, tok, tp, ka, sta, vaa) L f i a) (hP : va_P (dC, dI) vwCl ((va_pl L f ++ [(ou, .inl (co, 1, .inr (.inl fo)))]) ++ mw gm m0 bm i a) H) (hD : va_D (fun q : Nat => s.heap.size ≤ q) ((va_pl L f ++ [(ou, .inl (co, 1, .inr (.inl fo)))]) ++ mw gm m0 bm i a)) (hS : va_S (fun q : Nat => s.heap.size ≤ q) s.heap H locs) (hl : lv_has ls 7 [(4, .int ii), (3, .ref ou), (2, .ref m0), (1, .ref x0), (0, .ref b)]) (hii : ii = nI (6 * t)) (ht : 6 * t + 6 ≤ Ln) (hc : cells + 303 ≤ 601024) (hs : slots + 2415 ≤ 7293034) (hk : ∀ (L2 : List Nat) (f2 : Nat → va_E) (fo2 : Nat → Int64) (i2 : Nat → Int32) (a2 : Nat → Nat → Int32) (H : Heap) (locs : List Loc) (ls : Array Slot), LI g (x0, rdr, tok, tp, ka, sta, vaa) L2 f2 i2 a2 → va_P (dC, dI) vwCl ((va_pl L2 f2 ++ [(ou, .inl (co, 1, .inr (.inl fo2)))]) ++ mw gm m0 bm i2 a2) H → va_D (fun q : Nat => s.heap.size ≤ q) ((va_pl L2 f2 ++ [(ou, .inl (co, 1, .inr (.inl fo2)))]) ++ mw gm m0 bm i2 a2) → va_S (fun q : Nat => s.heap.size ≤ q) s.heap H locs → lv_has ls 7 [(4, .int ii), (3, .ref ou), (2, .ref m0), (1, .ref x0), (0, .ref b)] → W p l e room_1 s m #[Value.ref b] below meth c H locs (cells + 303) (slots + 2415) (lw_Z below #[Value.ref b] s) (F0 m 938 ls [])) : W p l e room_1 s m #[Value.ref b] below meth c H locs cells slots (lw_Z below #[Value.ref b] s) (F0 m 172 ls []) := by
  obtain ⟨hx, hb, hr, hml, hown, hts, hX, hbl, hlocks, hgv⟩ := id C0
  have hown : s.vm.findClass RL = some m.cls := hown
  have hA : ∀ q : Nat, s.heap.size ≤ q → (fun q : Nat => s.heap.size ≤ q) q := fun _ h => h
  have hbA : ¬ (fun q : Nat => s.heap.size ≤ q) b := Nat.not_le.mpr hbl
  refine lv_aload_n hx hb dL_law_172 rfl (lv_at hl 3 rfl) ?_
  refine lv_aload_n hx hb dL_law_173 rfl (lv_at hl 4 rfl) ?_
  refine lv_iload hx hb dL_law_174 (lv_at hl 0 rfl) ?_
  refine lv_iconst (v := 1) hx hb dL_law_176 (by decide) ?_
  refine lv_iadd hx hb dL_law_177 ?_
  refine lv_topi (fun z_1 ez_1 => ?_)
  refine va_sld hx hb hX hbl hbA hS (sc_in ez_1 hii (by decide : (1 : Int32) = nI 1) (by decide) ht hLn) dL_law_178 ?_
  refine lv_topi (fun z_2 ez_2 => ?_)
  refine lv_aload_n hx hb dL_law_179 rfl (lv_at hl 4 rfl) ?_
  refine lv_iload hx hb dL_law_180 (lv_at hl 0 rfl) ?_
  refine lv_iconst (v := 2) hx hb dL_law_182 (by decide) ?_
  refine lv_iadd hx hb dL_law_183 ?_
  refine lv_topi (fun z_3 ez_3 => ?_)
  refine va_sld hx hb hX hbl hbA hS (sc_in ez_3 hii (by decide : (2 : Int32) = nI 2) (by decide) ht hLn) dL_law_184 ?_
  refine lv_topi (fun z_4 ez_4 => ?_)
  refine lv_aload_n hx hb dL_law_185 rfl (lv_at hl 1 rfl) ?_
  obtain ⟨tt, hCN, hag⟩ := hI.2.1.2
  refine NW_S (hh := [(0, 10, 13, 13), (0, 10, 17, 18)]) ⟨hx, hb, hml, hown, hts⟩ (w_feed l dC dI sa hlt g _ _ x0 rdr tok tp ka sta vaa ou co _ z_2 z_4 (i 20) (i 23) (i 24) tt _ hI.1 hI.2.1.1 hCN hI.2.2.2.1.2) (vx_cwSW 4 hts gL_law_L_feed rfl rfl rfl (by decide +kernel) ⟨Nat.le_of_ble_eq_true rfl, Nat.le_of_ble_eq_true rfl⟩) hP hD (hK.sub [0, 1, 2, 3, 4, 5, 6, 7, 8, 9, 10, 11] rfl) hS hA hev rfl hl.1 rfl (Nat.le_of_ble_eq_true rfl) dL_law_186 ⟨by show _ + 2 ≤ 601024; omega, by show _ + 12 ≤ 7293034; omega⟩ (fun r u H locs hw hP hD hS => ?_)
  obtain ⟨⟨L2, f2⟩, fo2⟩ := u
  have hw : (∃ z : Int32, r = some (.int z)) ∧ WT g L2 f2 ∧ Ext L f L2 f2 ∧ RF (x0, rdr, tok, tp, ka, sta, vaa) f2 ∧ CN (x0, rdr, tok, tp, ka, sta, vaa) f2 (i 20) (i 23) (i 24) tt := hw
  obtain ⟨⟨z_5, rfl⟩, hW2, hE2, hRF2, hCN2⟩ := hw
  have hT2 := hI.1.go hE2 hW2
  have hP : va_P (dC, dI) vwCl ((va_pl L2 f2 ++ [(ou, .inl (co, 1, .inr (.inl fo2)))]) ++ mw gm m0 bm i a) _ := hP
  have hD : va_D _ ((va_pl L2 f2 ++ [(ou, .inl (co, 1, .inr (.inl fo2)))]) ++ mw gm m0 bm i a) := hD
  refine W.eq (g2 := F0 m 189 ls [.int z_5]) rfl ?_
  refine lv_istore (lv' := [(5, .int z_5), (4, .int ii), (3, .ref ou), (2, .ref m0), (1, .ref x0), (0, .ref b)]) hx hb dL_law_189 hl (by decide) rfl (fun ls hl => ?_)
  refine lv_aload_n hx hb dL_law_191 rfl (lv_at hl 3 rfl) ?_
  refine lv_aload_n hx hb dL_law_192 rfl (lv_at hl 5 rfl) ?_
  refine lv_iload hx hb dL_law_193 (lv_at hl 1 rfl) ?_
  refine lv_iconst (v := 1) hx hb dL_law_195 (by decide) ?_
  refine lv_iadd hx hb dL_law_196 ?_
  refine lv_topi (fun z_6 ez_6 => ?_)
  refine va_sld hx hb hX hbl hbA hS (sc_in ez_6 hii (by decide : (1 : Int32) = nI 1) (by decide) ht hLn) dL_law_197 ?_
  refine lv_topi (fun z_7 ez_7 => ?_)
  refine lv_aload_n hx hb dL_law_198 rfl (lv_at hl 5 rfl) ?_
  refine lv_iload hx hb dL_law_199 (lv_at hl 1 rfl) ?_
  refine lv_iconst (v := 2) hx hb dL_law_201 (by decide) ?_
  refine lv_iadd hx hb dL_law_202 ?_
  refine lv_topi (fun z_8 ez_8 => ?_)
  refine va_sld hx hb hX hbl hbA hS (sc_in ez_8 hii (by decide : (2 : Int32) = nI 2) (by decide) ht hLn) dL_law_203 ?_
  refine lv_topi (fun z_9 ez_9 => ?_)
  refine NV_V ⟨hx, hb, hml, hown, hts⟩ (m_X10_feed l dC dI sa gm m0 bm i a z_7 z_9 _ ) (cwV 2 hts gL_law_X10_feed rfl rfl rfl (by decide +kernel) ⟨Nat.le_of_ble_eq_true rfl, Nat.le_of_ble_eq_true rfl⟩) hP hD (hK.sub [12, 13, 14, 15, 16, 17, 18, 19, 20, 21, 22, 23, 24, 25, 26, 27, 28, 29, 30, 31, 32, 33, 34, 35, 36, 37, 38, 39, 40] rfl) hS hA hev rfl rfl rfl rfl hl.1 rfl (Nat.le_of_ble_eq_true rfl) dL_law_204 ⟨by show _ + 0 ≤ 601024; omega, by show _ + 0 ≤ 7293034; omega⟩ (fun r u H locs hw hP hD hS => ?_)
  obtain ⟨x0_10, y5_11, y7_12⟩ := u
  have hw : (∃ z : Int32, r = some (.int z)) ∧ (True) := hw
  obtain ⟨⟨z_13, rfl⟩, hwP⟩ := hw
  have hP : va_P (dC, dI) vwCl ((va_pl L2 f2 ++ [(ou, .inl (co, 1, .inr (.inl fo2)))]) ++ mw gm m0 bm (va_up i 0 x0_10) (va_up (va_up a 5 y5_11) 7 y7_12)) _ := hP
  have hD : va_D _ ((va_pl L2 f2 ++ [(ou, .inl (co, 1, .inr (.inl fo2)))]) ++ mw gm m0 bm (va_up i 0 x0_10) (va_up (va_up a 5 y5_11) 7 y7_12)) := hD
  refine W.eq (g2 := F0 m 207 ls [.int z_13]) rfl ?_
  refine lv_istore (lv' := [(6, .int z_13), (5, .int z_5), (4, .int ii), (3, .ref ou), (2, .ref m0), (1, .ref x0), (0, .ref b)]) hx hb dL_law_207 hl (by decide) rfl (fun ls hl => ?_)
  refine lv_goto (tgt := 938) hx hb dL_law_209 (by decide) ?_
  exact W.widen (by omega) (by omega) (hk L2 f2 fo2 (va_up i 0 x0_10) (va_up (va_up a 5 y5_11) 7 y7_12) _ _ _ ⟨hT2, ⟨hRF2, tt, hCN2, hag⟩, hI.2.2.1, hI.2.2.2.1, hI.2.2.2.2.1, hI.2.2.2.2.2⟩ hP hD hS (lv_sub hl [2, 3, 4, 5, 6] rfl))

set_option maxHeartbeats 4000000 in
set_option maxRecDepth 100000 in
theorem lo_lime {p : Program} {l : Launch} {e : Env} {s : State} {m : MethodId} {below : List Frame} {meth : Method} {c : Code} {b Ln : Nat} {xs : Nat → Int32} (hlt : l.stackTraces = false) (C0 : lw_At p s m meth c b Ln xs) (hLn : Ln ≤ 3072) {dC : Nat → ClassId} {dI : Nat → Nat → Nat} {sa : Nat → Nat} (hev : ev sa (fun q : Nat => s.heap.size ≤ q) s s.heap) {x0 rdr tok tp ka sta vaa m0 ou : Nat} {co : ClassId} {g gm bm : Nat → Nat} (hK : va_K (dC, dI) vwCl (tyG g ++ [(co, .long)] ++ tyM gm) s) {L : List Nat} {f : Nat → va_E} {fo : Nat → Int64} {i : Nat → Int32} {a : Nat → Nat → Int32} {H : Heap} {locs : List Loc} {ls : Array Slot} {cells slots t : Nat} {ii : Int32} (hI : LI g (x0, rdr, tok, tp, ka, sta, vaa) L f i a) (hP : va_P (dC, dI) vwCl ((va_pl L f ++ [(ou, .inl (co, 1, .inr (.inl fo)))]) ++ mw gm m0 bm i a) H) (hD : va_D (fun q : Nat => s.heap.size ≤ q) ((va_pl L f ++ [(ou, .inl (co, 1, .inr (.inl fo)))]) ++ mw gm m0 bm i a)) (hS : va_S (fun q : Nat => s.heap.size ≤ q) s.heap H locs) (hl : lv_has ls 7 [(4, .int ii), (3, .ref ou), (2, .ref m0), (1, .ref x0), (0, .ref b)]) (hii : ii = nI (6 * t)) (ht : 6 * t + 6 ≤ Ln) (hc : cells + 303 ≤ 601024) (hs : slots + 2415 ≤ 7293034) (hk : ∀ (L2 : List Nat) (f2 : Nat → va_E) (fo2 : Nat → Int64) (i2 : Nat → Int32) (a2 : Nat → Nat → Int32) (H : Heap) (locs : List Loc) (ls : Array Slot), LI g (x0, rdr, tok, tp, ka, sta, vaa) L2 f2 i2 a2 → va_P (dC, dI) vwCl ((va_pl L2 f2 ++ [(ou, .inl (co, 1, .inr (.inl fo2)))]) ++ mw gm m0 bm i2 a2) H → va_D (fun q : Nat => s.heap.size ≤ q) ((va_pl L2 f2 ++ [(ou, .inl (co, 1, .inr (.inl fo2)))]) ++ mw gm m0 bm i2 a2) → va_S (fun q : Nat => s.heap.size ≤ q) s.heap H locs → lv_has ls 7 [(4, .int ii), (3, .ref ou), (2, .ref m0), (1, .ref x0), (0, .ref b)] → W p l e room_1 s m #[Value.ref b] below meth c H locs (cells + 303) (slots + 2415) (lw_Z below #[Value.ref b] s) (F0 m 938 ls [])) : W p l e room_1 s m #[Value.ref b] below meth c H locs cells slots (lw_Z below #[Value.ref b] s) (F0 m 212 ls []) := by
  obtain ⟨hx, hb, hr, hml, hown, hts, hX, hbl, hlocks, hgv⟩ := id C0
  have hown : s.vm.findClass RL = some m.cls := hown
  have hA : ∀ q : Nat, s.heap.size ≤ q → (fun q : Nat => s.heap.size ≤ q) q := fun _ h => h
  have hbA : ¬ (fun q : Nat => s.heap.size ≤ q) b := Nat.not_le.mpr hbl
  refine lv_aload_n hx hb dL_law_212 rfl (lv_at hl 3 rfl) ?_
  refine lv_aload_n hx hb dL_law_213 rfl (lv_at hl 4 rfl) ?_
  refine lv_iload hx hb dL_law_214 (lv_at hl 0 rfl) ?_
  refine lv_iconst (v := 1) hx hb dL_law_216 (by decide) ?_
  refine lv_iadd hx hb dL_law_217 ?_
  refine lv_topi (fun z_1 ez_1 => ?_)
  refine va_sld hx hb hX hbl hbA hS (sc_in ez_1 hii (by decide : (1 : Int32) = nI 1) (by decide) ht hLn) dL_law_218 ?_
  refine lv_topi (fun z_2 ez_2 => ?_)
  refine lv_aload_n hx hb dL_law_219 rfl (lv_at hl 1 rfl) ?_
  obtain ⟨tt, hCN, hag⟩ := hI.2.1.2
  refine NW_S (hh := [(0, 9, 12, 13)]) ⟨hx, hb, hml, hown, hts⟩ (w_lime l dC dI sa hlt g _ _ x0 rdr tok tp ka sta vaa ou co _ z_2 (i 20) (i 23) (i 24) tt _ hI.1 hI.2.1.1 hCN hI.2.2.2.1.2) (vx_cwSW 3 hts gL_law_L_lime rfl rfl rfl (by decide +kernel) ⟨Nat.le_of_ble_eq_true rfl, Nat.le_of_ble_eq_true rfl⟩) hP hD (hK.sub [0, 1, 2, 3, 4, 5, 6, 7, 8, 9, 10, 11] rfl) hS hA hev rfl hl.1 rfl (Nat.le_of_ble_eq_true rfl) dL_law_220 ⟨by show _ + 1 ≤ 601024; omega, by show _ + 6 ≤ 7293034; omega⟩ (fun r u H locs hw hP hD hS => ?_)
  obtain ⟨⟨L2, f2⟩, fo2⟩ := u
  have hw : (∃ z : Int32, r = some (.int z)) ∧ WT g L2 f2 ∧ Ext L f L2 f2 ∧ RF (x0, rdr, tok, tp, ka, sta, vaa) f2 ∧ CN (x0, rdr, tok, tp, ka, sta, vaa) f2 (i 20) (i 23) (i 24) tt := hw
  obtain ⟨⟨z_3, rfl⟩, hW2, hE2, hRF2, hCN2⟩ := hw
  have hT2 := hI.1.go hE2 hW2
  have hP : va_P (dC, dI) vwCl ((va_pl L2 f2 ++ [(ou, .inl (co, 1, .inr (.inl fo2)))]) ++ mw gm m0 bm i a) _ := hP
  have hD : va_D _ ((va_pl L2 f2 ++ [(ou, .inl (co, 1, .inr (.inl fo2)))]) ++ mw gm m0 bm i a) := hD
  refine W.eq (g2 := F0 m 223 ls [.int z_3]) rfl ?_
  refine lv_istore (lv' := [(5, .int z_3), (4, .int ii), (3, .ref ou), (2, .ref m0), (1, .ref x0), (0, .ref b)]) hx hb dL_law_223 hl (by decide) rfl (fun ls hl => ?_)
  refine lv_aload_n hx hb dL_law_225 rfl (lv_at hl 3 rfl) ?_
  refine lv_aload_n hx hb dL_law_226 rfl (lv_at hl 5 rfl) ?_
  refine lv_iload hx hb dL_law_227 (lv_at hl 1 rfl) ?_
  refine lv_iconst (v := 1) hx hb dL_law_229 (by decide) ?_
  refine lv_iadd hx hb dL_law_230 ?_
  refine lv_topi (fun z_4 ez_4 => ?_)
  refine va_sld hx hb hX hbl hbA hS (sc_in ez_4 hii (by decide : (1 : Int32) = nI 1) (by decide) ht hLn) dL_law_231 ?_
  refine lv_topi (fun z_5 ez_5 => ?_)
  refine NV_V ⟨hx, hb, hml, hown, hts⟩ (m_X10_lime l dC dI sa gm m0 bm i a z_5 _ ) (cwV 1 hts gL_law_X10_lime rfl rfl rfl (by decide +kernel) ⟨Nat.le_of_ble_eq_true rfl, Nat.le_of_ble_eq_true rfl⟩) hP hD (hK.sub [12, 13, 14, 15, 16, 17, 18, 19, 20, 21, 22, 23, 24, 25, 26, 27, 28, 29, 30, 31, 32, 33, 34, 35, 36, 37, 38, 39, 40] rfl) hS hA hev rfl rfl rfl rfl hl.1 rfl (Nat.le_of_ble_eq_true rfl) dL_law_232 ⟨by show _ + 0 ≤ 601024; omega, by show _ + 0 ≤ 7293034; omega⟩ (fun r u H locs hw hP hD hS => ?_)
  obtain ⟨x0_6, y5_7, y6_8, y7_9⟩ := u
  have hw : (∃ z : Int32, r = some (.int z)) ∧ (True) := hw
  obtain ⟨⟨z_10, rfl⟩, hwP⟩ := hw
  have hP : va_P (dC, dI) vwCl ((va_pl L2 f2 ++ [(ou, .inl (co, 1, .inr (.inl fo2)))]) ++ mw gm m0 bm (va_up i 0 x0_6) (va_up (va_up (va_up a 5 y5_7) 6 y6_8) 7 y7_9)) _ := hP
  have hD : va_D _ ((va_pl L2 f2 ++ [(ou, .inl (co, 1, .inr (.inl fo2)))]) ++ mw gm m0 bm (va_up i 0 x0_6) (va_up (va_up (va_up a 5 y5_7) 6 y6_8) 7 y7_9)) := hD
  refine W.eq (g2 := F0 m 235 ls [.int z_10]) rfl ?_
  refine lv_istore (lv' := [(6, .int z_10), (5, .int z_3), (4, .int ii), (3, .ref ou), (2, .ref m0), (1, .ref x0), (0, .ref b)]) hx hb dL_law_235 hl (by decide) rfl (fun ls hl => ?_)
  refine lv_goto (tgt := 938) hx hb dL_law_237 (by decide) ?_
  exact W.widen (by omega) (by omega) (hk L2 f2 fo2 (va_up i 0 x0_6) (va_up (va_up (va_up a 5 y5_7) 6 y6_8) 7 y7_9) _ _ _ ⟨hT2, ⟨hRF2, tt, hCN2, hag⟩, hI.2.2.1, hI.2.2.2.1, hI.2.2.2.2.1, hI.2.2.2.2.2⟩ hP hD hS (lv_sub hl [2, 3, 4, 5, 6] rfl))

set_option maxHeartbeats 4000000 in
set_option maxRecDepth 100000 in
theorem lo_hours {p : Program} {l : Launch} {e : Env} {s : State} {m : MethodId} {below : List Frame} {meth : Method} {c : Code} {b Ln : Nat} {xs : Nat → Int32} (hlt : l.stackTraces = false) (C0 : lw_At p s m meth c b Ln xs) (hLn : Ln ≤ 3072) {dC : Nat → ClassId} {dI : Nat → Nat → Nat} {sa : Nat → Nat} (hev : ev sa (fun q : Nat => s.heap.size ≤ q) s s.heap) {x0 rdr tok tp ka sta vaa m0 ou : Nat} {co : ClassId} {g gm bm : Nat → Nat} (hK : va_K (dC, dI) vwCl (tyG g ++ [(co, .long)] ++ tyM gm) s) {L : List Nat} {f : Nat → va_E} {fo : Nat → Int64} {i : Nat → Int32} {a : Nat → Nat → Int32} {H : Heap} {locs : List Loc} {ls : Array Slot} {cells slots t : Nat} {ii : Int32} (hI : LI g (x0, rdr, tok, tp, ka, sta, vaa) L f i a) (hP : va_P (dC, dI) vwCl ((va_pl L f ++ [(ou, .inl (co, 1, .inr (.inl fo)))]) ++ mw gm m0 bm i a) H) (hD : va_D (fun q : Nat => s.heap.size ≤ q) ((va_pl L f ++ [(ou, .inl (co, 1, .inr (.inl fo)))]) ++ mw gm m0 bm i a)) (hS : va_S (fun q : Nat => s.heap.size ≤ q) s.heap H locs) (hl : lv_has ls 7 [(4, .int ii), (3, .ref ou), (2, .ref m0), (1, .ref x0), (0, .ref b)]) (hii : ii = nI (6 * t)) (ht : 6 * t + 6 ≤ Ln) (hc : cells + 303 ≤ 601024) (hs : slots + 2415 ≤ 7293034) (hk : ∀ (L2 : List Nat) (f2 : Nat → va_E) (fo2 : Nat → Int64) (i2 : Nat → Int32) (a2 : Nat → Nat → Int32) (H : Heap) (locs : List Loc) (ls : Array Slot), LI g (x0, rdr, tok, tp, ka, sta, vaa) L2 f2 i2 a2 → va_P (dC, dI) vwCl ((va_pl L2 f2 ++ [(ou, .inl (co, 1, .inr (.inl fo2)))]) ++ mw gm m0 bm i2 a2) H → va_D (fun q : Nat => s.heap.size ≤ q) ((va_pl L2 f2 ++ [(ou, .inl (co, 1, .inr (.inl fo2)))]) ++ mw gm m0 bm i2 a2) → va_S (fun q : Nat => s.heap.size ≤ q) s.heap H locs → lv_has ls 7 [(4, .int ii), (3, .ref ou), (2, .ref m0), (1, .ref x0), (0, .ref b)] → W p l e room_1 s m #[Value.ref b] below meth c H locs (cells + 303) (slots + 2415) (lw_Z below #[Value.ref b] s) (F0 m 938 ls [])) : W p l e room_1 s m #[Value.ref b] below meth c H locs cells slots (lw_Z below #[Value.ref b] s) (F0 m 240 ls []) := by
  obtain ⟨hx, hb, hr, hml, hown, hts, hX, hbl, hlocks, hgv⟩ := id C0
  have hown : s.vm.findClass RL = some m.cls := hown
  have hA : ∀ q : Nat, s.heap.size ≤ q → (fun q : Nat => s.heap.size ≤ q) q := fun _ h => h
  have hbA : ¬ (fun q : Nat => s.heap.size ≤ q) b := Nat.not_le.mpr hbl
  refine lv_aload_n hx hb dL_law_240 rfl (lv_at hl 3 rfl) ?_
  refine lv_aload_n hx hb dL_law_241 rfl (lv_at hl 4 rfl) ?_
  refine lv_iload hx hb dL_law_242 (lv_at hl 0 rfl) ?_
  refine lv_iconst (v := 1) hx hb dL_law_244 (by decide) ?_
  refine lv_iadd hx hb dL_law_245 ?_
  refine lv_topi (fun z_1 ez_1 => ?_)
  refine va_sld hx hb hX hbl hbA hS (sc_in ez_1 hii (by decide : (1 : Int32) = nI 1) (by decide) ht hLn) dL_law_246 ?_
  refine lv_topi (fun z_2 ez_2 => ?_)
  refine lv_aload_n hx hb dL_law_247 rfl (lv_at hl 1 rfl) ?_
  obtain ⟨tt, hCN, hag⟩ := hI.2.1.2
  refine NW_S (hh := [(0, 9, 12, 18)]) ⟨hx, hb, hml, hown, hts⟩ (w_hours l dC dI sa hlt g _ _ x0 rdr tok tp ka sta vaa ou co _ z_2 (i 20) (i 23) (i 24) tt _ hI.1 hI.2.1.1 hCN hI.2.2.2.1.2) (vx_cwSW 3 hts gL_law_L_hours rfl rfl rfl (by decide +kernel) ⟨Nat.le_of_ble_eq_true rfl, Nat.le_of_ble_eq_true rfl⟩) hP hD (hK.sub [0, 1, 2, 3, 4, 5, 6, 7, 8, 9, 10, 11] rfl) hS hA hev rfl hl.1 rfl (Nat.le_of_ble_eq_true rfl) dL_law_248 ⟨by show _ + 1 ≤ 601024; omega, by show _ + 6 ≤ 7293034; omega⟩ (fun r u H locs hw hP hD hS => ?_)
  obtain ⟨⟨L2, f2⟩, fo2⟩ := u
  have hw : (∃ z : Int32, r = some (.int z)) ∧ WT g L2 f2 ∧ Ext L f L2 f2 ∧ RF (x0, rdr, tok, tp, ka, sta, vaa) f2 ∧ CN (x0, rdr, tok, tp, ka, sta, vaa) f2 (i 20) (i 23) (i 24) tt := hw
  obtain ⟨⟨z_3, rfl⟩, hW2, hE2, hRF2, hCN2⟩ := hw
  have hT2 := hI.1.go hE2 hW2
  have hP : va_P (dC, dI) vwCl ((va_pl L2 f2 ++ [(ou, .inl (co, 1, .inr (.inl fo2)))]) ++ mw gm m0 bm i a) _ := hP
  have hD : va_D _ ((va_pl L2 f2 ++ [(ou, .inl (co, 1, .inr (.inl fo2)))]) ++ mw gm m0 bm i a) := hD
  refine W.eq (g2 := F0 m 251 ls [.int z_3]) rfl ?_
  refine lv_istore (lv' := [(5, .int z_3), (4, .int ii), (3, .ref ou), (2, .ref m0), (1, .ref x0), (0, .ref b)]) hx hb dL_law_251 hl (by decide) rfl (fun ls hl => ?_)
  refine lv_aload_n hx hb dL_law_253 rfl (lv_at hl 3 rfl) ?_
  refine lv_aload_n hx hb dL_law_254 rfl (lv_at hl 5 rfl) ?_
  refine lv_iload hx hb dL_law_255 (lv_at hl 1 rfl) ?_
  refine lv_iconst (v := 1) hx hb dL_law_257 (by decide) ?_
  refine lv_iadd hx hb dL_law_258 ?_
  refine lv_topi (fun z_4 ez_4 => ?_)
  refine va_sld hx hb hX hbl hbA hS (sc_in ez_4 hii (by decide : (1 : Int32) = nI 1) (by decide) ht hLn) dL_law_259 ?_
  refine lv_topi (fun z_5 ez_5 => ?_)
  refine NV_V ⟨hx, hb, hml, hown, hts⟩ (m_X10_hours l dC dI sa gm m0 bm i a z_5 _ ) (cwV 1 hts gL_law_X10_hours rfl rfl rfl (by decide +kernel) ⟨Nat.le_of_ble_eq_true rfl, Nat.le_of_ble_eq_true rfl⟩) hP hD (hK.sub [12, 13, 14, 15, 16, 17, 18, 19, 20, 21, 22, 23, 24, 25, 26, 27, 28, 29, 30, 31, 32, 33, 34, 35, 36, 37, 38, 39, 40] rfl) hS hA hev rfl rfl rfl rfl hl.1 rfl (Nat.le_of_ble_eq_true rfl) dL_law_260 ⟨by show _ + 0 ≤ 601024; omega, by show _ + 0 ≤ 7293034; omega⟩ (fun r u H locs hw hP hD hS => ?_)
  obtain ⟨x0_6, x1_7, y5_8, y6_9, y7_10, y10_11, y11_12⟩ := u
  have hw : (∃ z : Int32, r = some (.int z)) ∧ (True) := hw
  obtain ⟨⟨z_13, rfl⟩, hwP⟩ := hw
  have hP : va_P (dC, dI) vwCl ((va_pl L2 f2 ++ [(ou, .inl (co, 1, .inr (.inl fo2)))]) ++ mw gm m0 bm (va_up (va_up i 0 x0_6) 1 x1_7) (va_up (va_up (va_up (va_up (va_up a 5 y5_8) 6 y6_9) 7 y7_10) 10 y10_11) 11 y11_12)) _ := hP
  have hD : va_D _ ((va_pl L2 f2 ++ [(ou, .inl (co, 1, .inr (.inl fo2)))]) ++ mw gm m0 bm (va_up (va_up i 0 x0_6) 1 x1_7) (va_up (va_up (va_up (va_up (va_up a 5 y5_8) 6 y6_9) 7 y7_10) 10 y10_11) 11 y11_12)) := hD
  refine W.eq (g2 := F0 m 263 ls [.int z_13]) rfl ?_
  refine lv_istore (lv' := [(6, .int z_13), (5, .int z_3), (4, .int ii), (3, .ref ou), (2, .ref m0), (1, .ref x0), (0, .ref b)]) hx hb dL_law_263 hl (by decide) rfl (fun ls hl => ?_)
  refine lv_goto (tgt := 938) hx hb dL_law_265 (by decide) ?_
  exact W.widen (by omega) (by omega) (hk L2 f2 fo2 (va_up (va_up i 0 x0_6) 1 x1_7) (va_up (va_up (va_up (va_up (va_up a 5 y5_8) 6 y6_9) 7 y7_10) 10 y10_11) 11 y11_12) _ _ _ ⟨hT2, ⟨hRF2, tt, hCN2, hag⟩, hI.2.2.1, hI.2.2.2.1, hI.2.2.2.2.1, hI.2.2.2.2.2⟩ hP hD hS (lv_sub hl [2, 3, 4, 5, 6] rfl))

set_option maxHeartbeats 4000000 in
set_option maxRecDepth 100000 in
theorem lo_cloth {p : Program} {l : Launch} {e : Env} {s : State} {m : MethodId} {below : List Frame} {meth : Method} {c : Code} {b Ln : Nat} {xs : Nat → Int32} (hlt : l.stackTraces = false) (C0 : lw_At p s m meth c b Ln xs) (hLn : Ln ≤ 3072) {dC : Nat → ClassId} {dI : Nat → Nat → Nat} {sa : Nat → Nat} (hev : ev sa (fun q : Nat => s.heap.size ≤ q) s s.heap) {x0 rdr tok tp ka sta vaa m0 ou : Nat} {co : ClassId} {g gm bm : Nat → Nat} (hK : va_K (dC, dI) vwCl (tyG g ++ [(co, .long)] ++ tyM gm) s) {L : List Nat} {f : Nat → va_E} {fo : Nat → Int64} {i : Nat → Int32} {a : Nat → Nat → Int32} {H : Heap} {locs : List Loc} {ls : Array Slot} {cells slots t : Nat} {ii : Int32} (hI : LI g (x0, rdr, tok, tp, ka, sta, vaa) L f i a) (hP : va_P (dC, dI) vwCl ((va_pl L f ++ [(ou, .inl (co, 1, .inr (.inl fo)))]) ++ mw gm m0 bm i a) H) (hD : va_D (fun q : Nat => s.heap.size ≤ q) ((va_pl L f ++ [(ou, .inl (co, 1, .inr (.inl fo)))]) ++ mw gm m0 bm i a)) (hS : va_S (fun q : Nat => s.heap.size ≤ q) s.heap H locs) (hl : lv_has ls 7 [(4, .int ii), (3, .ref ou), (2, .ref m0), (1, .ref x0), (0, .ref b)]) (hii : ii = nI (6 * t)) (ht : 6 * t + 6 ≤ Ln) (hc : cells + 303 ≤ 601024) (hs : slots + 2415 ≤ 7293034) (hk : ∀ (L2 : List Nat) (f2 : Nat → va_E) (fo2 : Nat → Int64) (i2 : Nat → Int32) (a2 : Nat → Nat → Int32) (H : Heap) (locs : List Loc) (ls : Array Slot), LI g (x0, rdr, tok, tp, ka, sta, vaa) L2 f2 i2 a2 → va_P (dC, dI) vwCl ((va_pl L2 f2 ++ [(ou, .inl (co, 1, .inr (.inl fo2)))]) ++ mw gm m0 bm i2 a2) H → va_D (fun q : Nat => s.heap.size ≤ q) ((va_pl L2 f2 ++ [(ou, .inl (co, 1, .inr (.inl fo2)))]) ++ mw gm m0 bm i2 a2) → va_S (fun q : Nat => s.heap.size ≤ q) s.heap H locs → lv_has ls 7 [(4, .int ii), (3, .ref ou), (2, .ref m0), (1, .ref x0), (0, .ref b)] → W p l e room_1 s m #[Value.ref b] below meth c H locs (cells + 303) (slots + 2415) (lw_Z below #[Value.ref b] s) (F0 m 938 ls [])) : W p l e room_1 s m #[Value.ref b] below meth c H locs cells slots (lw_Z below #[Value.ref b] s) (F0 m 268 ls []) := by
  obtain ⟨hx, hb, hr, hml, hown, hts, hX, hbl, hlocks, hgv⟩ := id C0
  have hown : s.vm.findClass RL = some m.cls := hown
  have hA : ∀ q : Nat, s.heap.size ≤ q → (fun q : Nat => s.heap.size ≤ q) q := fun _ h => h
  have hbA : ¬ (fun q : Nat => s.heap.size ≤ q) b := Nat.not_le.mpr hbl
  refine lv_aload_n hx hb dL_law_268 rfl (lv_at hl 3 rfl) ?_
  refine lv_aload_n hx hb dL_law_269 rfl (lv_at hl 4 rfl) ?_
  refine lv_iload hx hb dL_law_270 (lv_at hl 0 rfl) ?_
  refine lv_iconst (v := 1) hx hb dL_law_272 (by decide) ?_
  refine lv_iadd hx hb dL_law_273 ?_
  refine lv_topi (fun z_1 ez_1 => ?_)
  refine va_sld hx hb hX hbl hbA hS (sc_in ez_1 hii (by decide : (1 : Int32) = nI 1) (by decide) ht hLn) dL_law_274 ?_
  refine lv_topi (fun z_2 ez_2 => ?_)
  obtain ⟨tt, hCN, hag⟩ := hI.2.1.2
  rw [List.append_assoc] at hP hD
  obtain ⟨tl9, htl9⟩ := (hI.1.sub [0] rfl).num
  refine NU_V ⟨hx, hb, hml, hown, hts⟩ (t_X9_cloth l dC dI sa hlt g _ _ x0 z_2 tl9 _ (hI.1.sub [0] rfl) htl9) (cwV 1 hts gL_law_X9_cloth rfl rfl rfl (by decide +kernel) ⟨Nat.le_of_ble_eq_true rfl, Nat.le_of_ble_eq_true rfl⟩) hP hD (hK.sub [0, 1, 2, 3, 4, 5, 6, 7, 8, 9, 10] rfl) hS hA hev hI.1 0 9 rfl rfl rfl rfl hl.1 rfl (Nat.le_of_ble_eq_true rfl) dL_law_275 ⟨by show _ + 1 ≤ 601024; omega, by show _ + 8 ≤ 7293034; omega⟩ (fun r L2 f2 H locs hw hT2 hE2 hP hD hS => ?_)
  rw [← List.append_assoc] at hP hD
  obtain ⟨⟨z_3, rfl⟩, hFr, -⟩ := hw
  have hCN2 := hCN.fr hI.1 hFr (by decide)
  have hRF2 := hI.2.1.1.fr hI.1 hFr (by decide)
  have hP : va_P (dC, dI) vwCl ((va_pl L2 f2 ++ [(ou, .inl (co, 1, .inr (.inl fo)))]) ++ mw gm m0 bm i a) _ := hP
  have hD : va_D _ ((va_pl L2 f2 ++ [(ou, .inl (co, 1, .inr (.inl fo)))]) ++ mw gm m0 bm i a) := hD
  refine W.eq (g2 := F0 m 278 ls [.int z_3]) rfl ?_
  refine lv_pop hx hb dL_law_278 rfl ?_
  refine lv_aload_n hx hb dL_law_279 rfl (lv_at hl 2 rfl) ?_
  refine lv_aload_n hx hb dL_law_280 rfl (lv_at hl 4 rfl) ?_
  refine lv_iload hx hb dL_law_281 (lv_at hl 0 rfl) ?_
  refine lv_iconst (v := 1) hx hb dL_law_283 (by decide) ?_
  refine lv_iadd hx hb dL_law_284 ?_
  refine lv_topi (fun z_4 ez_4 => ?_)
  refine va_sld hx hb hX hbl hbA hS (sc_in ez_4 hii (by decide : (1 : Int32) = nI 1) (by decide) ht hLn) dL_law_285 ?_
  refine lv_topi (fun z_5 ez_5 => ?_)
  refine NV_V ⟨hx, hb, hml, hown, hts⟩ (m_X10_cloth l dC dI sa gm m0 bm i a z_5 _ hI.2.2.1) (cwV 1 hts gL_law_X10_cloth rfl rfl rfl (by decide +kernel) ⟨Nat.le_of_ble_eq_true rfl, Nat.le_of_ble_eq_true rfl⟩) hP hD (hK.sub [12, 13, 14, 15, 16, 17, 18, 19, 20, 21, 22, 23, 24, 25, 26, 27, 28, 29, 30, 31, 32, 33, 34, 35, 36, 37, 38, 39, 40] rfl) hS hA hev rfl rfl rfl rfl hl.1 rfl (Nat.le_of_ble_eq_true rfl) dL_law_286 ⟨by show _ + 0 ≤ 601024; omega, by show _ + 0 ≤ 7293034; omega⟩ (fun r u H locs hw hP hD hS => ?_)
  obtain ⟨x0_6, x12_7, y13_8⟩ := u
  have hw : (∃ z : Int32, r = some (.int z) ∧ ((((i 12) = 30 ∨ z_5 < 1 ∨ ¬ z_5 ≤ 50) ∧ x12_7 = (i 12) ∧ z = -1) ∨ (¬ (i 12) = 30 ∧ ¬ z_5 < 1 ∧ z_5 ≤ 50 ∧ x12_7 = (i 12) + 1 ∧ z = (i 12) + 1 - 1))) ∧ (CI x12_7 y13_8) := hw
  obtain ⟨⟨z_9, rfl, hz⟩, hwP⟩ := hw
  have hP : va_P (dC, dI) vwCl ((va_pl L2 f2 ++ [(ou, .inl (co, 1, .inr (.inl fo)))]) ++ mw gm m0 bm (va_up (va_up i 0 x0_6) 12 x12_7) (va_up a 13 y13_8)) _ := hP
  have hD : va_D _ ((va_pl L2 f2 ++ [(ou, .inl (co, 1, .inr (.inl fo)))]) ++ mw gm m0 bm (va_up (va_up i 0 x0_6) 12 x12_7) (va_up a 13 y13_8)) := hD
  refine W.eq (g2 := F0 m 289 ls [.int z_9]) rfl ?_
  refine lv_pop hx hb dL_law_289 rfl ?_
  refine lv_goto (tgt := 938) hx hb dL_law_290 (by decide) ?_
  exact W.widen (by omega) (by omega) (hk L2 f2 fo (va_up (va_up i 0 x0_6) 12 x12_7) (va_up a 13 y13_8) _ _ _ ⟨hT2, ⟨hRF2, tt, hCN2, hag⟩, hwP, hI.2.2.2.1, hI.2.2.2.2.1, hI.2.2.2.2.2⟩ hP hD hS (lv_sub hl [0, 1, 2, 3, 4] rfl))

set_option maxHeartbeats 4000000 in
set_option maxRecDepth 100000 in
theorem lo_dip {p : Program} {l : Launch} {e : Env} {s : State} {m : MethodId} {below : List Frame} {meth : Method} {c : Code} {b Ln : Nat} {xs : Nat → Int32} (hlt : l.stackTraces = false) (C0 : lw_At p s m meth c b Ln xs) (hLn : Ln ≤ 3072) {dC : Nat → ClassId} {dI : Nat → Nat → Nat} {sa : Nat → Nat} (hev : ev sa (fun q : Nat => s.heap.size ≤ q) s s.heap) {x0 rdr tok tp ka sta vaa m0 ou : Nat} {co : ClassId} {g gm bm : Nat → Nat} (hK : va_K (dC, dI) vwCl (tyG g ++ [(co, .long)] ++ tyM gm) s) {L : List Nat} {f : Nat → va_E} {fo : Nat → Int64} {i : Nat → Int32} {a : Nat → Nat → Int32} {H : Heap} {locs : List Loc} {ls : Array Slot} {cells slots t : Nat} {ii : Int32} (hI : LI g (x0, rdr, tok, tp, ka, sta, vaa) L f i a) (hP : va_P (dC, dI) vwCl ((va_pl L f ++ [(ou, .inl (co, 1, .inr (.inl fo)))]) ++ mw gm m0 bm i a) H) (hD : va_D (fun q : Nat => s.heap.size ≤ q) ((va_pl L f ++ [(ou, .inl (co, 1, .inr (.inl fo)))]) ++ mw gm m0 bm i a)) (hS : va_S (fun q : Nat => s.heap.size ≤ q) s.heap H locs) (hl : lv_has ls 7 [(4, .int ii), (3, .ref ou), (2, .ref m0), (1, .ref x0), (0, .ref b)]) (hii : ii = nI (6 * t)) (ht : 6 * t + 6 ≤ Ln) (hc : cells + 303 ≤ 601024) (hs : slots + 2415 ≤ 7293034) (hk : ∀ (L2 : List Nat) (f2 : Nat → va_E) (fo2 : Nat → Int64) (i2 : Nat → Int32) (a2 : Nat → Nat → Int32) (H : Heap) (locs : List Loc) (ls : Array Slot), LI g (x0, rdr, tok, tp, ka, sta, vaa) L2 f2 i2 a2 → va_P (dC, dI) vwCl ((va_pl L2 f2 ++ [(ou, .inl (co, 1, .inr (.inl fo2)))]) ++ mw gm m0 bm i2 a2) H → va_D (fun q : Nat => s.heap.size ≤ q) ((va_pl L2 f2 ++ [(ou, .inl (co, 1, .inr (.inl fo2)))]) ++ mw gm m0 bm i2 a2) → va_S (fun q : Nat => s.heap.size ≤ q) s.heap H locs → lv_has ls 7 [(4, .int ii), (3, .ref ou), (2, .ref m0), (1, .ref x0), (0, .ref b)] → W p l e room_1 s m #[Value.ref b] below meth c H locs (cells + 303) (slots + 2415) (lw_Z below #[Value.ref b] s) (F0 m 938 ls [])) : W p l e room_1 s m #[Value.ref b] below meth c H locs cells slots (lw_Z below #[Value.ref b] s) (F0 m 293 ls []) := by
  obtain ⟨hx, hb, hr, hml, hown, hts, hX, hbl, hlocks, hgv⟩ := id C0
  have hown : s.vm.findClass RL = some m.cls := hown
  have hA : ∀ q : Nat, s.heap.size ≤ q → (fun q : Nat => s.heap.size ≤ q) q := fun _ h => h
  have hbA : ¬ (fun q : Nat => s.heap.size ≤ q) b := Nat.not_le.mpr hbl
  refine lv_aload_n hx hb dL_law_293 rfl (lv_at hl 3 rfl) ?_
  refine lv_aload_n hx hb dL_law_294 rfl (lv_at hl 4 rfl) ?_
  refine lv_iload hx hb dL_law_295 (lv_at hl 0 rfl) ?_
  refine lv_iconst (v := 1) hx hb dL_law_297 (by decide) ?_
  refine lv_iadd hx hb dL_law_298 ?_
  refine lv_topi (fun z_1 ez_1 => ?_)
  refine va_sld hx hb hX hbl hbA hS (sc_in ez_1 hii (by decide : (1 : Int32) = nI 1) (by decide) ht hLn) dL_law_299 ?_
  refine lv_topi (fun z_2 ez_2 => ?_)
  refine lv_aload_n hx hb dL_law_300 rfl (lv_at hl 4 rfl) ?_
  refine lv_iload hx hb dL_law_301 (lv_at hl 0 rfl) ?_
  refine lv_iconst (v := 2) hx hb dL_law_303 (by decide) ?_
  refine lv_iadd hx hb dL_law_304 ?_
  refine lv_topi (fun z_3 ez_3 => ?_)
  refine va_sld hx hb hX hbl hbA hS (sc_in ez_3 hii (by decide : (2 : Int32) = nI 2) (by decide) ht hLn) dL_law_305 ?_
  refine lv_topi (fun z_4 ez_4 => ?_)
  refine lv_aload_n hx hb dL_law_306 rfl (lv_at hl 4 rfl) ?_
  refine lv_iload hx hb dL_law_307 (lv_at hl 0 rfl) ?_
  refine lv_iconst (v := 3) hx hb dL_law_309 (by decide) ?_
  refine lv_iadd hx hb dL_law_310 ?_
  refine lv_topi (fun z_5 ez_5 => ?_)
  refine va_sld hx hb hX hbl hbA hS (sc_in ez_5 hii (by decide : (3 : Int32) = nI 3) (by decide) ht hLn) dL_law_311 ?_
  refine lv_topi (fun z_6 ez_6 => ?_)
  refine lv_aload_n hx hb dL_law_312 rfl (lv_at hl 1 rfl) ?_
  obtain ⟨tt, hCN, hag⟩ := hI.2.1.2
  refine NW_S (hh := [(0, 12, 15, 13), (0, 12, 19, 18)]) ⟨hx, hb, hml, hown, hts⟩ (w_dip l dC dI sa hlt g _ _ x0 rdr tok tp ka sta vaa ou co _ z_2 z_4 z_6 (i 20) (i 23) (i 24) tt _ hI.1 hI.2.1.1 hCN hI.2.2.2.1.2) (vx_cwSW 5 hts gL_law_L_dip rfl rfl rfl (by decide +kernel) ⟨Nat.le_of_ble_eq_true rfl, Nat.le_of_ble_eq_true rfl⟩) hP hD (hK.sub [0, 1, 2, 3, 4, 5, 6, 7, 8, 9, 10, 11] rfl) hS hA hev rfl hl.1 rfl (Nat.le_of_ble_eq_true rfl) dL_law_313 ⟨by show _ + 3 ≤ 601024; omega, by show _ + 18 ≤ 7293034; omega⟩ (fun r u H locs hw hP hD hS => ?_)
  obtain ⟨⟨L2, f2⟩, fo2⟩ := u
  have hw : (∃ z : Int32, r = some (.int z)) ∧ WT g L2 f2 ∧ Ext L f L2 f2 ∧ RF (x0, rdr, tok, tp, ka, sta, vaa) f2 ∧ CN (x0, rdr, tok, tp, ka, sta, vaa) f2 (i 20) (i 23) (i 24) tt := hw
  obtain ⟨⟨z_7, rfl⟩, hW2, hE2, hRF2, hCN2⟩ := hw
  have hT2 := hI.1.go hE2 hW2
  have hP : va_P (dC, dI) vwCl ((va_pl L2 f2 ++ [(ou, .inl (co, 1, .inr (.inl fo2)))]) ++ mw gm m0 bm i a) _ := hP
  have hD : va_D _ ((va_pl L2 f2 ++ [(ou, .inl (co, 1, .inr (.inl fo2)))]) ++ mw gm m0 bm i a) := hD
  refine W.eq (g2 := F0 m 316 ls [.int z_7]) rfl ?_
  refine lv_istore (lv' := [(5, .int z_7), (4, .int ii), (3, .ref ou), (2, .ref m0), (1, .ref x0), (0, .ref b)]) hx hb dL_law_316 hl (by decide) rfl (fun ls hl => ?_)
  refine lv_aload_n hx hb dL_law_318 rfl (lv_at hl 3 rfl) ?_
  refine lv_aload_n hx hb dL_law_319 rfl (lv_at hl 5 rfl) ?_
  refine lv_iload hx hb dL_law_320 (lv_at hl 1 rfl) ?_
  refine lv_iconst (v := 1) hx hb dL_law_322 (by decide) ?_
  refine lv_iadd hx hb dL_law_323 ?_
  refine lv_topi (fun z_8 ez_8 => ?_)
  refine va_sld hx hb hX hbl hbA hS (sc_in ez_8 hii (by decide : (1 : Int32) = nI 1) (by decide) ht hLn) dL_law_324 ?_
  refine lv_topi (fun z_9 ez_9 => ?_)
  refine lv_aload_n hx hb dL_law_325 rfl (lv_at hl 5 rfl) ?_
  refine lv_iload hx hb dL_law_326 (lv_at hl 1 rfl) ?_
  refine lv_iconst (v := 2) hx hb dL_law_328 (by decide) ?_
  refine lv_iadd hx hb dL_law_329 ?_
  refine lv_topi (fun z_10 ez_10 => ?_)
  refine va_sld hx hb hX hbl hbA hS (sc_in ez_10 hii (by decide : (2 : Int32) = nI 2) (by decide) ht hLn) dL_law_330 ?_
  refine lv_topi (fun z_11 ez_11 => ?_)
  refine lv_aload_n hx hb dL_law_331 rfl (lv_at hl 5 rfl) ?_
  refine lv_iload hx hb dL_law_332 (lv_at hl 1 rfl) ?_
  refine lv_iconst (v := 3) hx hb dL_law_334 (by decide) ?_
  refine lv_iadd hx hb dL_law_335 ?_
  refine lv_topi (fun z_12 ez_12 => ?_)
  refine va_sld hx hb hX hbl hbA hS (sc_in ez_12 hii (by decide : (3 : Int32) = nI 3) (by decide) ht hLn) dL_law_336 ?_
  refine lv_topi (fun z_13 ez_13 => ?_)
  refine NV_V ⟨hx, hb, hml, hown, hts⟩ (m_X10_dip l dC dI sa gm m0 bm i a z_9 z_11 z_13 _ hI.2.2.1) (cwV 3 hts gL_law_X10_dip rfl rfl rfl (by decide +kernel) ⟨Nat.le_of_ble_eq_true rfl, Nat.le_of_ble_eq_true rfl⟩) hP hD (hK.sub [12, 13, 14, 15, 16, 17, 18, 19, 20, 21, 22, 23, 24, 25, 26, 27, 28, 29, 30, 31, 32, 33, 34, 35, 36, 37, 38, 39, 40] rfl) hS hA hev rfl rfl rfl rfl hl.1 rfl (Nat.le_of_ble_eq_true rfl) dL_law_337 ⟨by show _ + 0 ≤ 601024; omega, by show _ + 0 ≤ 7293034; omega⟩ (fun r u H locs hw hP hD hS => ?_)
  obtain ⟨x0_14, y4_15, y5_16, y6_17, y7_18, y8_19, y9_20, y10_21, y14_22, y17_23, y18_24⟩ := u
  have hw : (∃ z : Int32, r = some (.int z)) ∧ (True) := hw
  obtain ⟨⟨z_25, rfl⟩, hwP⟩ := hw
  have hP : va_P (dC, dI) vwCl ((va_pl L2 f2 ++ [(ou, .inl (co, 1, .inr (.inl fo2)))]) ++ mw gm m0 bm (va_up i 0 x0_14) (va_up (va_up (va_up (va_up (va_up (va_up (va_up (va_up (va_up (va_up a 4 y4_15) 5 y5_16) 6 y6_17) 7 y7_18) 8 y8_19) 9 y9_20) 10 y10_21) 14 y14_22) 17 y17_23) 18 y18_24)) _ := hP
  have hD : va_D _ ((va_pl L2 f2 ++ [(ou, .inl (co, 1, .inr (.inl fo2)))]) ++ mw gm m0 bm (va_up i 0 x0_14) (va_up (va_up (va_up (va_up (va_up (va_up (va_up (va_up (va_up (va_up a 4 y4_15) 5 y5_16) 6 y6_17) 7 y7_18) 8 y8_19) 9 y9_20) 10 y10_21) 14 y14_22) 17 y17_23) 18 y18_24)) := hD
  refine W.eq (g2 := F0 m 340 ls [.int z_25]) rfl ?_
  refine lv_istore (lv' := [(6, .int z_25), (5, .int z_7), (4, .int ii), (3, .ref ou), (2, .ref m0), (1, .ref x0), (0, .ref b)]) hx hb dL_law_340 hl (by decide) rfl (fun ls hl => ?_)
  refine lv_goto (tgt := 938) hx hb dL_law_342 (by decide) ?_
  exact W.widen (by omega) (by omega) (hk L2 f2 fo2 (va_up i 0 x0_14) (va_up (va_up (va_up (va_up (va_up (va_up (va_up (va_up (va_up (va_up a 4 y4_15) 5 y5_16) 6 y6_17) 7 y7_18) 8 y8_19) 9 y9_20) 10 y10_21) 14 y14_22) 17 y17_23) 18 y18_24) _ _ _ ⟨hT2, ⟨hRF2, tt, hCN2, hag⟩, hI.2.2.1, hI.2.2.2.1, hI.2.2.2.2.1, hI.2.2.2.2.2⟩ hP hD hS (lv_sub hl [2, 3, 4, 5, 6] rfl))

set_option maxHeartbeats 4000000 in
set_option maxRecDepth 100000 in
theorem lo_treat {p : Program} {l : Launch} {e : Env} {s : State} {m : MethodId} {below : List Frame} {meth : Method} {c : Code} {b Ln : Nat} {xs : Nat → Int32} (hlt : l.stackTraces = false) (C0 : lw_At p s m meth c b Ln xs) (hLn : Ln ≤ 3072) {dC : Nat → ClassId} {dI : Nat → Nat → Nat} {sa : Nat → Nat} (hev : ev sa (fun q : Nat => s.heap.size ≤ q) s s.heap) {x0 rdr tok tp ka sta vaa m0 ou : Nat} {co : ClassId} {g gm bm : Nat → Nat} (hK : va_K (dC, dI) vwCl (tyG g ++ [(co, .long)] ++ tyM gm) s) {L : List Nat} {f : Nat → va_E} {fo : Nat → Int64} {i : Nat → Int32} {a : Nat → Nat → Int32} {H : Heap} {locs : List Loc} {ls : Array Slot} {cells slots t : Nat} {ii : Int32} (hI : LI g (x0, rdr, tok, tp, ka, sta, vaa) L f i a) (hP : va_P (dC, dI) vwCl ((va_pl L f ++ [(ou, .inl (co, 1, .inr (.inl fo)))]) ++ mw gm m0 bm i a) H) (hD : va_D (fun q : Nat => s.heap.size ≤ q) ((va_pl L f ++ [(ou, .inl (co, 1, .inr (.inl fo)))]) ++ mw gm m0 bm i a)) (hS : va_S (fun q : Nat => s.heap.size ≤ q) s.heap H locs) (hl : lv_has ls 7 [(4, .int ii), (3, .ref ou), (2, .ref m0), (1, .ref x0), (0, .ref b)]) (hii : ii = nI (6 * t)) (ht : 6 * t + 6 ≤ Ln) (hc : cells + 303 ≤ 601024) (hs : slots + 2415 ≤ 7293034) (hk : ∀ (L2 : List Nat) (f2 : Nat → va_E) (fo2 : Nat → Int64) (i2 : Nat → Int32) (a2 : Nat → Nat → Int32) (H : Heap) (locs : List Loc) (ls : Array Slot), LI g (x0, rdr, tok, tp, ka, sta, vaa) L2 f2 i2 a2 → va_P (dC, dI) vwCl ((va_pl L2 f2 ++ [(ou, .inl (co, 1, .inr (.inl fo2)))]) ++ mw gm m0 bm i2 a2) H → va_D (fun q : Nat => s.heap.size ≤ q) ((va_pl L2 f2 ++ [(ou, .inl (co, 1, .inr (.inl fo2)))]) ++ mw gm m0 bm i2 a2) → va_S (fun q : Nat => s.heap.size ≤ q) s.heap H locs → lv_has ls 7 [(4, .int ii), (3, .ref ou), (2, .ref m0), (1, .ref x0), (0, .ref b)] → W p l e room_1 s m #[Value.ref b] below meth c H locs (cells + 303) (slots + 2415) (lw_Z below #[Value.ref b] s) (F0 m 938 ls [])) : W p l e room_1 s m #[Value.ref b] below meth c H locs cells slots (lw_Z below #[Value.ref b] s) (F0 m 345 ls []) := by
  obtain ⟨hx, hb, hr, hml, hown, hts, hX, hbl, hlocks, hgv⟩ := id C0
  have hown : s.vm.findClass RL = some m.cls := hown
  have hA : ∀ q : Nat, s.heap.size ≤ q → (fun q : Nat => s.heap.size ≤ q) q := fun _ h => h
  have hbA : ¬ (fun q : Nat => s.heap.size ≤ q) b := Nat.not_le.mpr hbl
  refine lv_aload_n hx hb dL_law_345 rfl (lv_at hl 3 rfl) ?_
  refine lv_aload_n hx hb dL_law_346 rfl (lv_at hl 4 rfl) ?_
  refine lv_iload hx hb dL_law_347 (lv_at hl 0 rfl) ?_
  refine lv_iconst (v := 1) hx hb dL_law_349 (by decide) ?_
  refine lv_iadd hx hb dL_law_350 ?_
  refine lv_topi (fun z_1 ez_1 => ?_)
  refine va_sld hx hb hX hbl hbA hS (sc_in ez_1 hii (by decide : (1 : Int32) = nI 1) (by decide) ht hLn) dL_law_351 ?_
  refine lv_topi (fun z_2 ez_2 => ?_)
  refine lv_aload_n hx hb dL_law_352 rfl (lv_at hl 4 rfl) ?_
  refine lv_iload hx hb dL_law_353 (lv_at hl 0 rfl) ?_
  refine lv_iconst (v := 2) hx hb dL_law_355 (by decide) ?_
  refine lv_iadd hx hb dL_law_356 ?_
  refine lv_topi (fun z_3 ez_3 => ?_)
  refine va_sld hx hb hX hbl hbA hS (sc_in ez_3 hii (by decide : (2 : Int32) = nI 2) (by decide) ht hLn) dL_law_357 ?_
  refine lv_topi (fun z_4 ez_4 => ?_)
  refine lv_aload_n hx hb dL_law_358 rfl (lv_at hl 1 rfl) ?_
  obtain ⟨tt, hCN, hag⟩ := hI.2.1.2
  refine NW_S (hh := [(0, 10, 13, 13), (0, 10, 17, 18)]) ⟨hx, hb, hml, hown, hts⟩ (w_treat l dC dI sa hlt g _ _ x0 rdr tok tp ka sta vaa ou co _ z_2 z_4 (i 20) (i 23) (i 24) tt _ hI.1 hI.2.1.1 hCN hI.2.2.2.1.2) (vx_cwSW 4 hts gL_law_L_treat rfl rfl rfl (by decide +kernel) ⟨Nat.le_of_ble_eq_true rfl, Nat.le_of_ble_eq_true rfl⟩) hP hD (hK.sub [0, 1, 2, 3, 4, 5, 6, 7, 8, 9, 10, 11] rfl) hS hA hev rfl hl.1 rfl (Nat.le_of_ble_eq_true rfl) dL_law_359 ⟨by show _ + 2 ≤ 601024; omega, by show _ + 12 ≤ 7293034; omega⟩ (fun r u H locs hw hP hD hS => ?_)
  obtain ⟨⟨L2, f2⟩, fo2⟩ := u
  have hw : (∃ z : Int32, r = some (.int z)) ∧ WT g L2 f2 ∧ Ext L f L2 f2 ∧ RF (x0, rdr, tok, tp, ka, sta, vaa) f2 ∧ CN (x0, rdr, tok, tp, ka, sta, vaa) f2 (i 20) (i 23) (i 24) tt := hw
  obtain ⟨⟨z_5, rfl⟩, hW2, hE2, hRF2, hCN2⟩ := hw
  have hT2 := hI.1.go hE2 hW2
  have hP : va_P (dC, dI) vwCl ((va_pl L2 f2 ++ [(ou, .inl (co, 1, .inr (.inl fo2)))]) ++ mw gm m0 bm i a) _ := hP
  have hD : va_D _ ((va_pl L2 f2 ++ [(ou, .inl (co, 1, .inr (.inl fo2)))]) ++ mw gm m0 bm i a) := hD
  refine W.eq (g2 := F0 m 362 ls [.int z_5]) rfl ?_
  refine lv_istore (lv' := [(5, .int z_5), (4, .int ii), (3, .ref ou), (2, .ref m0), (1, .ref x0), (0, .ref b)]) hx hb dL_law_362 hl (by decide) rfl (fun ls hl => ?_)
  refine lv_aload_n hx hb dL_law_364 rfl (lv_at hl 3 rfl) ?_
  refine lv_aload_n hx hb dL_law_365 rfl (lv_at hl 5 rfl) ?_
  refine lv_iload hx hb dL_law_366 (lv_at hl 1 rfl) ?_
  refine lv_iconst (v := 1) hx hb dL_law_368 (by decide) ?_
  refine lv_iadd hx hb dL_law_369 ?_
  refine lv_topi (fun z_6 ez_6 => ?_)
  refine va_sld hx hb hX hbl hbA hS (sc_in ez_6 hii (by decide : (1 : Int32) = nI 1) (by decide) ht hLn) dL_law_370 ?_
  refine lv_topi (fun z_7 ez_7 => ?_)
  refine lv_aload_n hx hb dL_law_371 rfl (lv_at hl 5 rfl) ?_
  refine lv_iload hx hb dL_law_372 (lv_at hl 1 rfl) ?_
  refine lv_iconst (v := 2) hx hb dL_law_374 (by decide) ?_
  refine lv_iadd hx hb dL_law_375 ?_
  refine lv_topi (fun z_8 ez_8 => ?_)
  refine va_sld hx hb hX hbl hbA hS (sc_in ez_8 hii (by decide : (2 : Int32) = nI 2) (by decide) ht hLn) dL_law_376 ?_
  refine lv_topi (fun z_9 ez_9 => ?_)
  refine NV_V ⟨hx, hb, hml, hown, hts⟩ (m_X10_treat l dC dI sa gm m0 bm i a z_7 z_9 _ hI.2.2.1) (cwV 2 hts gL_law_X10_treat rfl rfl rfl (by decide +kernel) ⟨Nat.le_of_ble_eq_true rfl, Nat.le_of_ble_eq_true rfl⟩) hP hD (hK.sub [12, 13, 14, 15, 16, 17, 18, 19, 20, 21, 22, 23, 24, 25, 26, 27, 28, 29, 30, 31, 32, 33, 34, 35, 36, 37, 38, 39, 40] rfl) hS hA hev rfl rfl rfl rfl hl.1 rfl (Nat.le_of_ble_eq_true rfl) dL_law_377 ⟨by show _ + 0 ≤ 601024; omega, by show _ + 0 ≤ 7293034; omega⟩ (fun r u H locs hw hP hD hS => ?_)
  obtain ⟨x0_10, x2_11, y14_12, y15_13, y16_14⟩ := u
  have hw : (∃ z : Int32, r = some (.int z)) ∧ (True) := hw
  obtain ⟨⟨z_15, rfl⟩, hwP⟩ := hw
  have hP : va_P (dC, dI) vwCl ((va_pl L2 f2 ++ [(ou, .inl (co, 1, .inr (.inl fo2)))]) ++ mw gm m0 bm (va_up (va_up i 0 x0_10) 2 x2_11) (va_up (va_up (va_up a 14 y14_12) 15 y15_13) 16 y16_14)) _ := hP
  have hD : va_D _ ((va_pl L2 f2 ++ [(ou, .inl (co, 1, .inr (.inl fo2)))]) ++ mw gm m0 bm (va_up (va_up i 0 x0_10) 2 x2_11) (va_up (va_up (va_up a 14 y14_12) 15 y15_13) 16 y16_14)) := hD
  refine W.eq (g2 := F0 m 380 ls [.int z_15]) rfl ?_
  refine lv_istore (lv' := [(6, .int z_15), (5, .int z_5), (4, .int ii), (3, .ref ou), (2, .ref m0), (1, .ref x0), (0, .ref b)]) hx hb dL_law_380 hl (by decide) rfl (fun ls hl => ?_)
  refine lv_goto (tgt := 938) hx hb dL_law_382 (by decide) ?_
  exact W.widen (by omega) (by omega) (hk L2 f2 fo2 (va_up (va_up i 0 x0_10) 2 x2_11) (va_up (va_up (va_up a 14 y14_12) 15 y15_13) 16 y16_14) _ _ _ ⟨hT2, ⟨hRF2, tt, hCN2, hag⟩, hI.2.2.1, hI.2.2.2.1, hI.2.2.2.2.1, hI.2.2.2.2.2⟩ hP hD hS (lv_sub hl [2, 3, 4, 5, 6] rfl))

set_option maxHeartbeats 4000000 in
set_option maxRecDepth 100000 in
theorem lo_put {p : Program} {l : Launch} {e : Env} {s : State} {m : MethodId} {below : List Frame} {meth : Method} {c : Code} {b Ln : Nat} {xs : Nat → Int32} (hlt : l.stackTraces = false) (C0 : lw_At p s m meth c b Ln xs) (hLn : Ln ≤ 3072) {dC : Nat → ClassId} {dI : Nat → Nat → Nat} {sa : Nat → Nat} (hev : ev sa (fun q : Nat => s.heap.size ≤ q) s s.heap) {x0 rdr tok tp ka sta vaa m0 ou : Nat} {co : ClassId} {g gm bm : Nat → Nat} (hK : va_K (dC, dI) vwCl (tyG g ++ [(co, .long)] ++ tyM gm) s) {L : List Nat} {f : Nat → va_E} {fo : Nat → Int64} {i : Nat → Int32} {a : Nat → Nat → Int32} {H : Heap} {locs : List Loc} {ls : Array Slot} {cells slots t : Nat} {ii : Int32} (hI : LI g (x0, rdr, tok, tp, ka, sta, vaa) L f i a) (hP : va_P (dC, dI) vwCl ((va_pl L f ++ [(ou, .inl (co, 1, .inr (.inl fo)))]) ++ mw gm m0 bm i a) H) (hD : va_D (fun q : Nat => s.heap.size ≤ q) ((va_pl L f ++ [(ou, .inl (co, 1, .inr (.inl fo)))]) ++ mw gm m0 bm i a)) (hS : va_S (fun q : Nat => s.heap.size ≤ q) s.heap H locs) (hl : lv_has ls 7 [(4, .int ii), (3, .ref ou), (2, .ref m0), (1, .ref x0), (0, .ref b)]) (hii : ii = nI (6 * t)) (ht : 6 * t + 6 ≤ Ln) (hc : cells + 303 ≤ 601024) (hs : slots + 2415 ≤ 7293034) (hk : ∀ (L2 : List Nat) (f2 : Nat → va_E) (fo2 : Nat → Int64) (i2 : Nat → Int32) (a2 : Nat → Nat → Int32) (H : Heap) (locs : List Loc) (ls : Array Slot), LI g (x0, rdr, tok, tp, ka, sta, vaa) L2 f2 i2 a2 → va_P (dC, dI) vwCl ((va_pl L2 f2 ++ [(ou, .inl (co, 1, .inr (.inl fo2)))]) ++ mw gm m0 bm i2 a2) H → va_D (fun q : Nat => s.heap.size ≤ q) ((va_pl L2 f2 ++ [(ou, .inl (co, 1, .inr (.inl fo2)))]) ++ mw gm m0 bm i2 a2) → va_S (fun q : Nat => s.heap.size ≤ q) s.heap H locs → lv_has ls 7 [(4, .int ii), (3, .ref ou), (2, .ref m0), (1, .ref x0), (0, .ref b)] → W p l e room_1 s m #[Value.ref b] below meth c H locs (cells + 303) (slots + 2415) (lw_Z below #[Value.ref b] s) (F0 m 938 ls [])) : W p l e room_1 s m #[Value.ref b] below meth c H locs cells slots (lw_Z below #[Value.ref b] s) (F0 m 385 ls []) := by
  obtain ⟨hx, hb, hr, hml, hown, hts, hX, hbl, hlocks, hgv⟩ := id C0
  have hown : s.vm.findClass RL = some m.cls := hown
  have hA : ∀ q : Nat, s.heap.size ≤ q → (fun q : Nat => s.heap.size ≤ q) q := fun _ h => h
  have hbA : ¬ (fun q : Nat => s.heap.size ≤ q) b := Nat.not_le.mpr hbl
  refine lv_aload_n hx hb dL_law_385 rfl (lv_at hl 3 rfl) ?_
  refine lv_aload_n hx hb dL_law_386 rfl (lv_at hl 4 rfl) ?_
  refine lv_iload hx hb dL_law_387 (lv_at hl 0 rfl) ?_
  refine lv_iconst (v := 1) hx hb dL_law_389 (by decide) ?_
  refine lv_iadd hx hb dL_law_390 ?_
  refine lv_topi (fun z_1 ez_1 => ?_)
  refine va_sld hx hb hX hbl hbA hS (sc_in ez_1 hii (by decide : (1 : Int32) = nI 1) (by decide) ht hLn) dL_law_391 ?_
  refine lv_topi (fun z_2 ez_2 => ?_)
  refine lv_aload_n hx hb dL_law_392 rfl (lv_at hl 4 rfl) ?_
  refine lv_iload hx hb dL_law_393 (lv_at hl 0 rfl) ?_
  refine lv_iconst (v := 2) hx hb dL_law_395 (by decide) ?_
  refine lv_iadd hx hb dL_law_396 ?_
  refine lv_topi (fun z_3 ez_3 => ?_)
  refine va_sld hx hb hX hbl hbA hS (sc_in ez_3 hii (by decide : (2 : Int32) = nI 2) (by decide) ht hLn) dL_law_397 ?_
  refine lv_topi (fun z_4 ez_4 => ?_)
  refine lv_aload_n hx hb dL_law_398 rfl (lv_at hl 4 rfl) ?_
  refine lv_iload hx hb dL_law_399 (lv_at hl 0 rfl) ?_
  refine lv_iconst (v := 3) hx hb dL_law_401 (by decide) ?_
  refine lv_iadd hx hb dL_law_402 ?_
  refine lv_topi (fun z_5 ez_5 => ?_)
  refine va_sld hx hb hX hbl hbA hS (sc_in ez_5 hii (by decide : (3 : Int32) = nI 3) (by decide) ht hLn) dL_law_403 ?_
  refine lv_topi (fun z_6 ez_6 => ?_)
  refine lv_aload_n hx hb dL_law_404 rfl (lv_at hl 4 rfl) ?_
  refine lv_iload hx hb dL_law_405 (lv_at hl 0 rfl) ?_
  refine lv_iconst (v := 4) hx hb dL_law_407 (by decide) ?_
  refine lv_iadd hx hb dL_law_408 ?_
  refine lv_topi (fun z_7 ez_7 => ?_)
  refine va_sld hx hb hX hbl hbA hS (sc_in ez_7 hii (by decide : (4 : Int32) = nI 4) (by decide) ht hLn) dL_law_409 ?_
  refine lv_topi (fun z_8 ez_8 => ?_)
  refine lv_aload_n hx hb dL_law_410 rfl (lv_at hl 4 rfl) ?_
  refine lv_iload hx hb dL_law_411 (lv_at hl 0 rfl) ?_
  refine lv_iconst (v := 5) hx hb dL_law_413 (by decide) ?_
  refine lv_iadd hx hb dL_law_414 ?_
  refine lv_topi (fun z_9 ez_9 => ?_)
  refine va_sld hx hb hX hbl hbA hS (sc_in ez_9 hii (by decide : (5 : Int32) = nI 5) (by decide) ht hLn) dL_law_415 ?_
  refine lv_topi (fun z_10 ez_10 => ?_)
  obtain ⟨tt, hCN, hag⟩ := hI.2.1.2
  rw [List.append_assoc] at hP hD
  refine NU_V ⟨hx, hb, hml, hown, hts⟩ (t_X9_putX l dC dI sa hlt g _ _ x0 z_2 z_4 z_6 z_8 z_10 tp (i 20) _ (hI.1.sub [0, 3] rfl) hCN.1 hI.2.1.1.1.1) (cwV 5 hts gL_law_X9_put rfl rfl rfl (by decide +kernel) ⟨Nat.le_of_ble_eq_true rfl, Nat.le_of_ble_eq_true rfl⟩) hP hD (hK.sub [0, 1, 2, 3, 4, 5, 6, 7, 8, 9, 10] rfl) hS hA hev hI.1 0 9 rfl rfl rfl rfl hl.1 rfl (Nat.le_of_ble_eq_true rfl) dL_law_416 ⟨by show _ + 0 ≤ 601024; omega, by show _ + 0 ≤ 7293034; omega⟩ (fun r L2 f2 H locs hw hT2 hE2 hP hD hS => ?_)
  rw [← List.append_assoc] at hP hD
  obtain ⟨⟨z_11, rfl⟩, hFr, mk2, hR2, -, hrel1⟩ := hw
  have hRF2 := hI.2.1.1.fr hI.1 hFr (by decide)
  have hP : va_P (dC, dI) vwCl ((va_pl L2 f2 ++ [(ou, .inl (co, 1, .inr (.inl fo)))]) ++ mw gm m0 bm i a) _ := hP
  have hD : va_D _ ((va_pl L2 f2 ++ [(ou, .inl (co, 1, .inr (.inl fo)))]) ++ mw gm m0 bm i a) := hD
  refine W.eq (g2 := F0 m 419 ls [.int z_11]) rfl ?_
  refine lv_pop hx hb dL_law_419 rfl ?_
  refine lv_aload_n hx hb dL_law_420 rfl (lv_at hl 2 rfl) ?_
  refine lv_aload_n hx hb dL_law_421 rfl (lv_at hl 4 rfl) ?_
  refine lv_iload hx hb dL_law_422 (lv_at hl 0 rfl) ?_
  refine lv_iconst (v := 1) hx hb dL_law_424 (by decide) ?_
  refine lv_iadd hx hb dL_law_425 ?_
  refine lv_topi (fun z_12 ez_12 => ?_)
  refine va_sld hx hb hX hbl hbA hS (sc_in ez_12 hii (by decide : (1 : Int32) = nI 1) (by decide) ht hLn) dL_law_426 ?_
  refine lv_topi (fun z_13 ez_13 => ?_)
  refine lv_aload_n hx hb dL_law_427 rfl (lv_at hl 4 rfl) ?_
  refine lv_iload hx hb dL_law_428 (lv_at hl 0 rfl) ?_
  refine lv_iconst (v := 2) hx hb dL_law_430 (by decide) ?_
  refine lv_iadd hx hb dL_law_431 ?_
  refine lv_topi (fun z_14 ez_14 => ?_)
  refine va_sld hx hb hX hbl hbA hS (sc_in ez_14 hii (by decide : (2 : Int32) = nI 2) (by decide) ht hLn) dL_law_432 ?_
  refine lv_topi (fun z_15 ez_15 => ?_)
  refine lv_aload_n hx hb dL_law_433 rfl (lv_at hl 4 rfl) ?_
  refine lv_iload hx hb dL_law_434 (lv_at hl 0 rfl) ?_
  refine lv_iconst (v := 3) hx hb dL_law_436 (by decide) ?_
  refine lv_iadd hx hb dL_law_437 ?_
  refine lv_topi (fun z_16 ez_16 => ?_)
  refine va_sld hx hb hX hbl hbA hS (sc_in ez_16 hii (by decide : (3 : Int32) = nI 3) (by decide) ht hLn) dL_law_438 ?_
  refine lv_topi (fun z_17 ez_17 => ?_)
  refine lv_aload_n hx hb dL_law_439 rfl (lv_at hl 4 rfl) ?_
  refine lv_iload hx hb dL_law_440 (lv_at hl 0 rfl) ?_
  refine lv_iconst (v := 4) hx hb dL_law_442 (by decide) ?_
  refine lv_iadd hx hb dL_law_443 ?_
  refine lv_topi (fun z_18 ez_18 => ?_)
  refine va_sld hx hb hX hbl hbA hS (sc_in ez_18 hii (by decide : (4 : Int32) = nI 4) (by decide) ht hLn) dL_law_444 ?_
  refine lv_topi (fun z_19 ez_19 => ?_)
  refine lv_aload_n hx hb dL_law_445 rfl (lv_at hl 4 rfl) ?_
  refine lv_iload hx hb dL_law_446 (lv_at hl 0 rfl) ?_
  refine lv_iconst (v := 5) hx hb dL_law_448 (by decide) ?_
  refine lv_iadd hx hb dL_law_449 ?_
  refine lv_topi (fun z_20 ez_20 => ?_)
  refine va_sld hx hb hX hbl hbA hS (sc_in ez_20 hii (by decide : (5 : Int32) = nI 5) (by decide) ht hLn) dL_law_450 ?_
  refine lv_topi (fun z_21 ez_21 => ?_)
  refine NV_V ⟨hx, hb, hml, hown, hts⟩ (m_X10_putX l dC dI sa gm m0 bm i a z_13 z_15 z_17 z_19 z_21 _ hI.2.2.2.1) (cwV 5 hts gL_law_X10_put rfl rfl rfl (by decide +kernel) ⟨Nat.le_of_ble_eq_true rfl, Nat.le_of_ble_eq_true rfl⟩) hP hD (hK.sub [12, 13, 14, 15, 16, 17, 18, 19, 20, 21, 22, 23, 24, 25, 26, 27, 28, 29, 30, 31, 32, 33, 34, 35, 36, 37, 38, 39, 40] rfl) hS hA hev rfl rfl rfl rfl hl.1 rfl (Nat.le_of_ble_eq_true rfl) dL_law_451 ⟨by show _ + 0 ≤ 601024; omega, by show _ + 0 ≤ 7293034; omega⟩ (fun r u H locs hw hP hD hS => ?_)
  obtain ⟨x0_22, x20_23, y19_24⟩ := u
  have hw : (∃ z : Int32, r = some (.int z) ∧ ((1480 < (i 20).toInt ∧ z = -1 ∧ x20_23 = (i 20)) ∨ ((i 20).toInt ≤ 1480 ∧ z = x20_23 ∧ x20_23.toInt = (i 20).toInt + 20))) ∧ (∀ nn : Nat, (i 20) = nI nn → nn ≤ 1500 → (nn ≤ 1480 → x20_23 = nI (nn + 20) ∧ y19_24 = ap5 bM (a 19) nn z_13 z_15 z_17 z_19 z_21) ∧ (¬ nn ≤ 1480 → x20_23 = (i 20) ∧ y19_24 = (a 19))) := hw
  obtain ⟨⟨z_25, rfl, hz⟩, hwP⟩ := hw
  have hab0 : z_13 = z_2 := by rw [ez_13, ez_12, ez_2, ez_1]
  have hab1 : z_15 = z_4 := by rw [ez_15, ez_14, ez_4, ez_3]
  have hab2 : z_17 = z_6 := by rw [ez_17, ez_16, ez_6, ez_5]
  have hab3 : z_19 = z_8 := by rw [ez_19, ez_18, ez_8, ez_7]
  have hab4 : z_21 = z_10 := by rw [ez_21, ez_20, ez_10, ez_9]
  rw [hab0, hab1, hab2, hab3, hab4] at hwP
  have hpb := put_both hI.1 hI.2.2.2.1 hCN hag hFr hR2 hrel1 hwP
  have hP : va_P (dC, dI) vwCl ((va_pl L2 f2 ++ [(ou, .inl (co, 1, .inr (.inl fo)))]) ++ mw gm m0 bm (va_up (va_up i 0 x0_22) 20 x20_23) (va_up a 19 y19_24)) _ := hP
  have hD : va_D _ ((va_pl L2 f2 ++ [(ou, .inl (co, 1, .inr (.inl fo)))]) ++ mw gm m0 bm (va_up (va_up i 0 x0_22) 20 x20_23) (va_up a 19 y19_24)) := hD
  refine W.eq (g2 := F0 m 454 ls [.int z_25]) rfl ?_
  refine lv_pop hx hb dL_law_454 rfl ?_
  refine lv_goto (tgt := 938) hx hb dL_law_455 (by decide) ?_
  exact W.widen (by omega) (by omega) (hk L2 f2 fo (va_up (va_up i 0 x0_22) 20 x20_23) (va_up a 19 y19_24) _ _ _ ⟨hT2, ⟨hRF2, hpb⟩, hI.2.2.1, (put_TI hI.2.2.2.1 hz), hI.2.2.2.2.1, hI.2.2.2.2.2⟩ hP hD hS (lv_sub hl [0, 1, 2, 3, 4] rfl))

set_option maxHeartbeats 4000000 in
set_option maxRecDepth 100000 in
theorem lo_recipe {p : Program} {l : Launch} {e : Env} {s : State} {m : MethodId} {below : List Frame} {meth : Method} {c : Code} {b Ln : Nat} {xs : Nat → Int32} (hlt : l.stackTraces = false) (C0 : lw_At p s m meth c b Ln xs) (hLn : Ln ≤ 3072) {dC : Nat → ClassId} {dI : Nat → Nat → Nat} {sa : Nat → Nat} (hev : ev sa (fun q : Nat => s.heap.size ≤ q) s s.heap) {x0 rdr tok tp ka sta vaa m0 ou : Nat} {co : ClassId} {g gm bm : Nat → Nat} (hK : va_K (dC, dI) vwCl (tyG g ++ [(co, .long)] ++ tyM gm) s) {L : List Nat} {f : Nat → va_E} {fo : Nat → Int64} {i : Nat → Int32} {a : Nat → Nat → Int32} {H : Heap} {locs : List Loc} {ls : Array Slot} {cells slots t : Nat} {ii : Int32} (hI : LI g (x0, rdr, tok, tp, ka, sta, vaa) L f i a) (hP : va_P (dC, dI) vwCl ((va_pl L f ++ [(ou, .inl (co, 1, .inr (.inl fo)))]) ++ mw gm m0 bm i a) H) (hD : va_D (fun q : Nat => s.heap.size ≤ q) ((va_pl L f ++ [(ou, .inl (co, 1, .inr (.inl fo)))]) ++ mw gm m0 bm i a)) (hS : va_S (fun q : Nat => s.heap.size ≤ q) s.heap H locs) (hl : lv_has ls 7 [(4, .int ii), (3, .ref ou), (2, .ref m0), (1, .ref x0), (0, .ref b)]) (hii : ii = nI (6 * t)) (ht : 6 * t + 6 ≤ Ln) (hc : cells + 303 ≤ 601024) (hs : slots + 2415 ≤ 7293034) (hk : ∀ (L2 : List Nat) (f2 : Nat → va_E) (fo2 : Nat → Int64) (i2 : Nat → Int32) (a2 : Nat → Nat → Int32) (H : Heap) (locs : List Loc) (ls : Array Slot), LI g (x0, rdr, tok, tp, ka, sta, vaa) L2 f2 i2 a2 → va_P (dC, dI) vwCl ((va_pl L2 f2 ++ [(ou, .inl (co, 1, .inr (.inl fo2)))]) ++ mw gm m0 bm i2 a2) H → va_D (fun q : Nat => s.heap.size ≤ q) ((va_pl L2 f2 ++ [(ou, .inl (co, 1, .inr (.inl fo2)))]) ++ mw gm m0 bm i2 a2) → va_S (fun q : Nat => s.heap.size ≤ q) s.heap H locs → lv_has ls 7 [(4, .int ii), (3, .ref ou), (2, .ref m0), (1, .ref x0), (0, .ref b)] → W p l e room_1 s m #[Value.ref b] below meth c H locs (cells + 303) (slots + 2415) (lw_Z below #[Value.ref b] s) (F0 m 938 ls [])) : W p l e room_1 s m #[Value.ref b] below meth c H locs cells slots (lw_Z below #[Value.ref b] s) (F0 m 458 ls []) := by
  obtain ⟨hx, hb, hr, hml, hown, hts, hX, hbl, hlocks, hgv⟩ := id C0
  have hown : s.vm.findClass RL = some m.cls := hown
  have hA : ∀ q : Nat, s.heap.size ≤ q → (fun q : Nat => s.heap.size ≤ q) q := fun _ h => h
  have hbA : ¬ (fun q : Nat => s.heap.size ≤ q) b := Nat.not_le.mpr hbl
  refine lv_aload_n hx hb dL_law_458 rfl (lv_at hl 3 rfl) ?_
  refine lv_aload_n hx hb dL_law_459 rfl (lv_at hl 4 rfl) ?_
  refine lv_iload hx hb dL_law_460 (lv_at hl 0 rfl) ?_
  refine lv_iconst (v := 1) hx hb dL_law_462 (by decide) ?_
  refine lv_iadd hx hb dL_law_463 ?_
  refine lv_topi (fun z_1 ez_1 => ?_)
  refine va_sld hx hb hX hbl hbA hS (sc_in ez_1 hii (by decide : (1 : Int32) = nI 1) (by decide) ht hLn) dL_law_464 ?_
  refine lv_topi (fun z_2 ez_2 => ?_)
  refine lv_aload_n hx hb dL_law_465 rfl (lv_at hl 4 rfl) ?_
  refine lv_iload hx hb dL_law_466 (lv_at hl 0 rfl) ?_
  refine lv_iconst (v := 2) hx hb dL_law_468 (by decide) ?_
  refine lv_iadd hx hb dL_law_469 ?_
  refine lv_topi (fun z_3 ez_3 => ?_)
  refine va_sld hx hb hX hbl hbA hS (sc_in ez_3 hii (by decide : (2 : Int32) = nI 2) (by decide) ht hLn) dL_law_470 ?_
  refine lv_topi (fun z_4 ez_4 => ?_)
  refine lv_aload_n hx hb dL_law_471 rfl (lv_at hl 1 rfl) ?_
  obtain ⟨tt, hCN, hag⟩ := hI.2.1.2
  refine NW_S (hh := [(0, 10, 13, 18)]) ⟨hx, hb, hml, hown, hts⟩ (w_recipe l dC dI sa hlt g _ _ x0 rdr tok tp ka sta vaa ou co _ z_2 z_4 (i 20) (i 23) (i 24) tt _ hI.1 hI.2.1.1 hCN hI.2.2.2.1.2) (vx_cwSW 4 hts gL_law_L_recipe rfl rfl rfl (by decide +kernel) ⟨Nat.le_of_ble_eq_true rfl, Nat.le_of_ble_eq_true rfl⟩) hP hD (hK.sub [0, 1, 2, 3, 4, 5, 6, 7, 8, 9, 10, 11] rfl) hS hA hev rfl hl.1 rfl (Nat.le_of_ble_eq_true rfl) dL_law_472 ⟨by show _ + 303 ≤ 601024; omega, by show _ + 2415 ≤ 7293034; omega⟩ (fun r u H locs hw hP hD hS => ?_)
  obtain ⟨⟨L2, f2⟩, fo2⟩ := u
  have hw : (∃ z : Int32, r = some (.int z)) ∧ WT g L2 f2 ∧ Ext L f L2 f2 ∧ RF (x0, rdr, tok, tp, ka, sta, vaa) f2 ∧ ((Cq z_2 z_4 (i 20) ∧ r = some (.int 0) ∧ ∃ fa2 pw2 : Int32, CN (x0, rdr, tok, tp, ka, sta, vaa) f2 0 fa2 pw2 tt ∧ fo2 0 = fa2.toInt64 ∧ ∃ (ln : Nat) (qn : SG), z_4 = nI ln ∧ ln ≤ 1500 ∧ Ev (Kp tt ln) (Vp tt ln) (nq tt ln) 0 0 (Sj tt ln 0, 0, 0, -1) qn ∧ fa2 = (gpa (Kp tt ln) (nq tt ln) 0 qn).2.2.1 ∧ pw2 = (gpa (Kp tt ln) (nq tt ln) 0 qn).2.2.2) ∨ (¬ Cq z_2 z_4 (i 20) ∧ r = some (.int 1) ∧ CN (x0, rdr, tok, tp, ka, sta, vaa) f2 (i 20) (i 23) (i 24) tt)) := hw
  obtain ⟨⟨z_5, rfl⟩, hW2, hE2, hRF2, hCN2⟩ := hw
  have hT2 := hI.1.go hE2 hW2
  have hP : va_P (dC, dI) vwCl ((va_pl L2 f2 ++ [(ou, .inl (co, 1, .inr (.inl fo2)))]) ++ mw gm m0 bm i a) _ := hP
  have hD : va_D _ ((va_pl L2 f2 ++ [(ou, .inl (co, 1, .inr (.inl fo2)))]) ++ mw gm m0 bm i a) := hD
  refine W.eq (g2 := F0 m 475 ls [.int z_5]) rfl ?_
  refine lv_istore (lv' := [(5, .int z_5), (4, .int ii), (3, .ref ou), (2, .ref m0), (1, .ref x0), (0, .ref b)]) hx hb dL_law_475 hl (by decide) rfl (fun ls hl => ?_)
  refine lv_aload_n hx hb dL_law_477 rfl (lv_at hl 3 rfl) ?_
  refine lv_aload_n hx hb dL_law_478 rfl (lv_at hl 5 rfl) ?_
  refine lv_iload hx hb dL_law_479 (lv_at hl 1 rfl) ?_
  refine lv_iconst (v := 1) hx hb dL_law_481 (by decide) ?_
  refine lv_iadd hx hb dL_law_482 ?_
  refine lv_topi (fun z_6 ez_6 => ?_)
  refine va_sld hx hb hX hbl hbA hS (sc_in ez_6 hii (by decide : (1 : Int32) = nI 1) (by decide) ht hLn) dL_law_483 ?_
  refine lv_topi (fun z_7 ez_7 => ?_)
  refine lv_aload_n hx hb dL_law_484 rfl (lv_at hl 5 rfl) ?_
  refine lv_iload hx hb dL_law_485 (lv_at hl 1 rfl) ?_
  refine lv_iconst (v := 2) hx hb dL_law_487 (by decide) ?_
  refine lv_iadd hx hb dL_law_488 ?_
  refine lv_topi (fun z_8 ez_8 => ?_)
  refine va_sld hx hb hX hbl hbA hS (sc_in ez_8 hii (by decide : (2 : Int32) = nI 2) (by decide) ht hLn) dL_law_489 ?_
  refine lv_topi (fun z_9 ez_9 => ?_)
  refine NV_V ⟨hx, hb, hml, hown, hts⟩ (m_X10_recipeX l dC dI sa gm m0 bm i a z_7 z_9 _ hI.2.2.2.1 hI.2.2.2.2.1) (cwV 2 hts gL_law_X10_recipe rfl rfl rfl (by decide +kernel) ⟨Nat.le_of_ble_eq_true rfl, Nat.le_of_ble_eq_true rfl⟩) hP hD (hK.sub [12, 13, 14, 15, 16, 17, 18, 19, 20, 21, 22, 23, 24, 25, 26, 27, 28, 29, 30, 31, 32, 33, 34, 35, 36, 37, 38, 39, 40] rfl) hS hA hev rfl rfl rfl rfl hl.1 rfl (Nat.le_of_ble_eq_true rfl) dL_law_490 ⟨by show _ + 0 ≤ 601024; omega, by show _ + 0 ≤ 7293034; omega⟩ (fun r u H locs hw hP hD hS => ?_)
  obtain ⟨x0_10, x20_11, x21_12, x22_13, x23_14, x24_15, x25_16, x36_17, x37_18, x38_19, y26_20, y27_21, y28_22, y29_23, y30_24, y31_25, y32_26, y33_27, y34_28, y35_29⟩ := u
  have hw : (∃ z : Int32, r = some (.int z)) ∧ (((0 ≤ x20_11.toInt ∧ x20_11.toInt ≤ 1500) ∧ BI y26_20 y27_21 y31_25 y32_26 y33_27 y34_28 y35_29) ∧ ((¬ Cq z_7 z_9 (i 20) ∧ x20_11 = (i 20) ∧ x23_14 = (i 23) ∧ x24_15 = (i 24) ∧ x0_10 = 1) ∨ (Cq z_7 z_9 (i 20) ∧ x20_11 = 0 ∧ x0_10 = 0 ∧ ∃ (ln : Nat) (r1 : SG), z_9 = nI ln ∧ ln ≤ 1500 ∧ Ev (Kp (a 19) ln) (Vp (a 19) ln) (nq (a 19) ln) 0 0 (sk (a 19) ln 0, 0, 0, -1) r1 ∧ x23_14 = (gpa (Kp (a 19) ln) (nq (a 19) ln) 0 r1).2.2.1 ∧ x24_15 = (gpa (Kp (a 19) ln) (nq (a 19) ln) 0 r1).2.2.2 ∧ r = some (.int x23_14)))) := hw
  obtain ⟨⟨z_30, rfl⟩, hwP⟩ := hw
  have hab0 : z_7 = z_2 := by rw [ez_7, ez_6, ez_2, ez_1]
  have hab1 : z_9 = z_4 := by rw [ez_9, ez_8, ez_4, ez_3]
  rw [hab0, hab1] at hwP
  obtain ⟨hth, hout, hrb⟩ := rc_both hag hCN2 hwP.2
  have hP : va_P (dC, dI) vwCl ((va_pl L2 f2 ++ [(ou, .inl (co, 1, .inr (.inl fo2)))]) ++ mw gm m0 bm (va_up (va_up (va_up (va_up (va_up (va_up (va_up (va_up (va_up (va_up i 0 x0_10) 20 x20_11) 21 x21_12) 22 x22_13) 23 x23_14) 24 x24_15) 25 x25_16) 36 x36_17) 37 x37_18) 38 x38_19) (va_up (va_up (va_up (va_up (va_up (va_up (va_up (va_up (va_up (va_up a 26 y26_20) 27 y27_21) 28 y28_22) 29 y29_23) 30 y30_24) 31 y31_25) 32 y32_26) 33 y33_27) 34 y34_28) 35 y35_29)) _ := hP
  have hD : va_D _ ((va_pl L2 f2 ++ [(ou, .inl (co, 1, .inr (.inl fo2)))]) ++ mw gm m0 bm (va_up (va_up (va_up (va_up (va_up (va_up (va_up (va_up (va_up (va_up i 0 x0_10) 20 x20_11) 21 x21_12) 22 x22_13) 23 x23_14) 24 x24_15) 25 x25_16) 36 x36_17) 37 x37_18) 38 x38_19) (va_up (va_up (va_up (va_up (va_up (va_up (va_up (va_up (va_up (va_up a 26 y26_20) 27 y27_21) 28 y28_22) 29 y29_23) 30 y30_24) 31 y31_25) 32 y32_26) 33 y33_27) 34 y34_28) 35 y35_29)) := hD
  refine W.eq (g2 := F0 m 493 ls [.int z_30]) rfl ?_
  refine lv_istore (lv' := [(6, .int z_30), (5, .int z_5), (4, .int ii), (3, .ref ou), (2, .ref m0), (1, .ref x0), (0, .ref b)]) hx hb dL_law_493 hl (by decide) rfl (fun ls hl => ?_)
  refine lv_aload_n hx hb dL_law_495 rfl (lv_at hl 4 rfl) ?_
  refine NV_V ⟨hx, hb, hml, hown, hts⟩ (m_X10_thrownX l dC dI sa gm m0 bm (va_up (va_up (va_up (va_up (va_up (va_up (va_up (va_up (va_up (va_up i 0 x0_10) 20 x20_11) 21 x21_12) 22 x22_13) 23 x23_14) 24 x24_15) 25 x25_16) 36 x36_17) 37 x37_18) 38 x38_19) (va_up (va_up (va_up (va_up (va_up (va_up (va_up (va_up (va_up (va_up a 26 y26_20) 27 y27_21) 28 y28_22) 29 y29_23) 30 y30_24) 31 y31_25) 32 y32_26) 33 y33_27) 34 y34_28) 35 y35_29)  _ ) (cwV 0 hts gL_law_X10_thrown rfl rfl rfl (by decide +kernel) ⟨Nat.le_of_ble_eq_true rfl, Nat.le_of_ble_eq_true rfl⟩) hP hD (hK.sub [12, 13, 14, 15, 16, 17, 18, 19, 20, 21, 22, 23, 24, 25, 26, 27, 28, 29, 30, 31, 32, 33, 34, 35, 36, 37, 38, 39, 40] rfl) hS hA hev rfl rfl rfl rfl hl.1 rfl (Nat.le_of_ble_eq_true rfl) dL_law_496 ⟨by show _ + 0 ≤ 601024; omega, by show _ + 0 ≤ 7293034; omega⟩ (fun r u H locs hw hP hD hS => ?_)
  have hw : (∃ z : Int32, r = some (.int z) ∧ (z = x0_10)) ∧ (True) := hw
  obtain ⟨⟨z_31, rfl, hz⟩, -⟩ := hw
  have hP : va_P (dC, dI) vwCl ((va_pl L2 f2 ++ [(ou, .inl (co, 1, .inr (.inl fo2)))]) ++ mw gm m0 bm (va_up (va_up (va_up (va_up (va_up (va_up (va_up (va_up (va_up (va_up i 0 x0_10) 20 x20_11) 21 x21_12) 22 x22_13) 23 x23_14) 24 x24_15) 25 x25_16) 36 x36_17) 37 x37_18) 38 x38_19) (va_up (va_up (va_up (va_up (va_up (va_up (va_up (va_up (va_up (va_up a 26 y26_20) 27 y27_21) 28 y28_22) 29 y29_23) 30 y30_24) 31 y31_25) 32 y32_26) 33 y33_27) 34 y34_28) 35 y35_29)) _ := hP
  have hD : va_D _ ((va_pl L2 f2 ++ [(ou, .inl (co, 1, .inr (.inl fo2)))]) ++ mw gm m0 bm (va_up (va_up (va_up (va_up (va_up (va_up (va_up (va_up (va_up (va_up i 0 x0_10) 20 x20_11) 21 x21_12) 22 x22_13) 23 x23_14) 24 x24_15) 25 x25_16) 36 x36_17) 37 x37_18) 38 x38_19) (va_up (va_up (va_up (va_up (va_up (va_up (va_up (va_up (va_up (va_up a 26 y26_20) 27 y27_21) 28 y28_22) 29 y29_23) 30 y30_24) 31 y31_25) 32 y32_26) 33 y33_27) 34 y34_28) 35 y35_29)) := hD
  refine W.eq (g2 := F0 m 499 ls [.int z_31]) rfl ?_
  refine lv_iload hx hb dL_law_499 (lv_at hl 1 rfl) ?_
  refine lv_icmp_eq (tgt := 506) hx hb dL_law_501 (by decide) (fun c_32 => ?_) (fun c_32 => ?_)
  rotate_left
  · exact absurd c_32 (fun h => h (hz.trans hth))
  refine lv_iload hx hb dL_law_506 (lv_at hl 1 rfl) ?_
  refine lv_if_ne (tgt := 523) hx hb dL_law_508 (by decide) (fun c_33 => ?_) (fun c_33 => ?_)
  · refine lv_goto (tgt := 938) hx hb dL_law_523 (by decide) ?_
    exact W.widen (by omega) (by omega) (hk L2 f2 fo2 (va_up (va_up (va_up (va_up (va_up (va_up (va_up (va_up (va_up (va_up i 0 x0_10) 20 x20_11) 21 x21_12) 22 x22_13) 23 x23_14) 24 x24_15) 25 x25_16) 36 x36_17) 37 x37_18) 38 x38_19) (va_up (va_up (va_up (va_up (va_up (va_up (va_up (va_up (va_up (va_up a 26 y26_20) 27 y27_21) 28 y28_22) 29 y29_23) 30 y30_24) 31 y31_25) 32 y32_26) 33 y33_27) 34 y34_28) 35 y35_29) _ _ _ ⟨hT2, ⟨hRF2, hrb⟩, hI.2.2.1, hwP.1.1, hwP.1.2, hI.2.2.2.2.2⟩ hP hD hS (lv_sub hl [2, 3, 4, 5, 6] rfl))
  · refine lv_aload_n hx hb dL_law_511 rfl (lv_at hl 3 rfl) ?_
    refine lv_iconst (v := 0) hx hb dL_law_512 (by decide) ?_
    refine N_lald hx hb hK hP 11 rfl dL_law_513 ?_
    refine lv_iload hx hb dL_law_514 (lv_at hl 0 rfl) ?_
    refine lv_i2l (v := (z_30).toInt64) hx hb dL_law_516 rfl ?_
    refine W.lcmp hx hb dL_law_517 ?_
    refine lv_topi (fun z_34 ez_34 => ?_)
    refine lv_if_eq (tgt := 523) hx hb dL_law_518 (by decide) (fun c_35 => ?_) (fun c_35 => ?_)
    rotate_left
    · exact absurd c_35 (fun h => h (ez_34.trans (lgc (hout c_33))))
    refine lv_goto (tgt := 938) hx hb dL_law_523 (by decide) ?_
    exact W.widen (by omega) (by omega) (hk L2 f2 fo2 (va_up (va_up (va_up (va_up (va_up (va_up (va_up (va_up (va_up (va_up i 0 x0_10) 20 x20_11) 21 x21_12) 22 x22_13) 23 x23_14) 24 x24_15) 25 x25_16) 36 x36_17) 37 x37_18) 38 x38_19) (va_up (va_up (va_up (va_up (va_up (va_up (va_up (va_up (va_up (va_up a 26 y26_20) 27 y27_21) 28 y28_22) 29 y29_23) 30 y30_24) 31 y31_25) 32 y32_26) 33 y33_27) 34 y34_28) 35 y35_29) _ _ _ ⟨hT2, ⟨hRF2, hrb⟩, hI.2.2.1, hwP.1.1, hwP.1.2, hI.2.2.2.2.2⟩ hP hD hS (lv_sub hl [2, 3, 4, 5, 6] rfl))

set_option maxHeartbeats 4000000 in
set_option maxRecDepth 100000 in
theorem lo_fault {p : Program} {l : Launch} {e : Env} {s : State} {m : MethodId} {below : List Frame} {meth : Method} {c : Code} {b Ln : Nat} {xs : Nat → Int32} (hlt : l.stackTraces = false) (C0 : lw_At p s m meth c b Ln xs) (hLn : Ln ≤ 3072) {dC : Nat → ClassId} {dI : Nat → Nat → Nat} {sa : Nat → Nat} (hev : ev sa (fun q : Nat => s.heap.size ≤ q) s s.heap) {x0 rdr tok tp ka sta vaa m0 ou : Nat} {co : ClassId} {g gm bm : Nat → Nat} (hK : va_K (dC, dI) vwCl (tyG g ++ [(co, .long)] ++ tyM gm) s) {L : List Nat} {f : Nat → va_E} {fo : Nat → Int64} {i : Nat → Int32} {a : Nat → Nat → Int32} {H : Heap} {locs : List Loc} {ls : Array Slot} {cells slots t : Nat} {ii : Int32} (hI : LI g (x0, rdr, tok, tp, ka, sta, vaa) L f i a) (hP : va_P (dC, dI) vwCl ((va_pl L f ++ [(ou, .inl (co, 1, .inr (.inl fo)))]) ++ mw gm m0 bm i a) H) (hD : va_D (fun q : Nat => s.heap.size ≤ q) ((va_pl L f ++ [(ou, .inl (co, 1, .inr (.inl fo)))]) ++ mw gm m0 bm i a)) (hS : va_S (fun q : Nat => s.heap.size ≤ q) s.heap H locs) (hl : lv_has ls 7 [(4, .int ii), (3, .ref ou), (2, .ref m0), (1, .ref x0), (0, .ref b)]) (hii : ii = nI (6 * t)) (ht : 6 * t + 6 ≤ Ln) (hc : cells + 303 ≤ 601024) (hs : slots + 2415 ≤ 7293034) (hk : ∀ (L2 : List Nat) (f2 : Nat → va_E) (fo2 : Nat → Int64) (i2 : Nat → Int32) (a2 : Nat → Nat → Int32) (H : Heap) (locs : List Loc) (ls : Array Slot), LI g (x0, rdr, tok, tp, ka, sta, vaa) L2 f2 i2 a2 → va_P (dC, dI) vwCl ((va_pl L2 f2 ++ [(ou, .inl (co, 1, .inr (.inl fo2)))]) ++ mw gm m0 bm i2 a2) H → va_D (fun q : Nat => s.heap.size ≤ q) ((va_pl L2 f2 ++ [(ou, .inl (co, 1, .inr (.inl fo2)))]) ++ mw gm m0 bm i2 a2) → va_S (fun q : Nat => s.heap.size ≤ q) s.heap H locs → lv_has ls 7 [(4, .int ii), (3, .ref ou), (2, .ref m0), (1, .ref x0), (0, .ref b)] → W p l e room_1 s m #[Value.ref b] below meth c H locs (cells + 303) (slots + 2415) (lw_Z below #[Value.ref b] s) (F0 m 938 ls [])) : W p l e room_1 s m #[Value.ref b] below meth c H locs cells slots (lw_Z below #[Value.ref b] s) (F0 m 526 ls []) := by
  obtain ⟨hx, hb, hr, hml, hown, hts, hX, hbl, hlocks, hgv⟩ := id C0
  have hown : s.vm.findClass RL = some m.cls := hown
  have hA : ∀ q : Nat, s.heap.size ≤ q → (fun q : Nat => s.heap.size ≤ q) q := fun _ h => h
  have hbA : ¬ (fun q : Nat => s.heap.size ≤ q) b := Nat.not_le.mpr hbl
  refine lv_aload_n hx hb dL_law_526 rfl (lv_at hl 3 rfl) ?_
  refine lv_aload_n hx hb dL_law_527 rfl (lv_at hl 4 rfl) ?_
  refine lv_iload hx hb dL_law_528 (lv_at hl 0 rfl) ?_
  refine lv_iconst (v := 1) hx hb dL_law_530 (by decide) ?_
  refine lv_iadd hx hb dL_law_531 ?_
  refine lv_topi (fun z_1 ez_1 => ?_)
  refine va_sld hx hb hX hbl hbA hS (sc_in ez_1 hii (by decide : (1 : Int32) = nI 1) (by decide) ht hLn) dL_law_532 ?_
  refine lv_topi (fun z_2 ez_2 => ?_)
  refine lv_aload_n hx hb dL_law_533 rfl (lv_at hl 1 rfl) ?_
  obtain ⟨tt, hCN, hag⟩ := hI.2.1.2
  refine NW_S (hh := [(0, 9, 12, 13)]) ⟨hx, hb, hml, hown, hts⟩ (w_fault l dC dI sa hlt g _ _ x0 rdr tok tp ka sta vaa ou co _ z_2 (i 20) (i 23) (i 24) tt _ hI.1 hI.2.1.1 hCN hI.2.2.2.1.2) (vx_cwSW 3 hts gL_law_L_fault rfl rfl rfl (by decide +kernel) ⟨Nat.le_of_ble_eq_true rfl, Nat.le_of_ble_eq_true rfl⟩) hP hD (hK.sub [0, 1, 2, 3, 4, 5, 6, 7, 8, 9, 10, 11] rfl) hS hA hev rfl hl.1 rfl (Nat.le_of_ble_eq_true rfl) dL_law_534 ⟨by show _ + 1 ≤ 601024; omega, by show _ + 6 ≤ 7293034; omega⟩ (fun r u H locs hw hP hD hS => ?_)
  obtain ⟨⟨L2, f2⟩, fo2⟩ := u
  have hw : (∃ z : Int32, r = some (.int z)) ∧ WT g L2 f2 ∧ Ext L f L2 f2 ∧ RF (x0, rdr, tok, tp, ka, sta, vaa) f2 ∧ (((z_2 = 0 ∧ r = some (.int 0) ∧ fo2 0 = (i 23).toInt64) ∨ (z_2 = 1 ∧ r = some (.int 0) ∧ fo2 0 = (i 24).toInt64) ∨ (¬ z_2 = 0 ∧ ¬ z_2 = 1 ∧ r = some (.int 1))) ∧ CN (x0, rdr, tok, tp, ka, sta, vaa) f2 (i 20) (i 23) (i 24) tt) := hw
  obtain ⟨⟨z_3, rfl⟩, hW2, hE2, hRF2, hCN2⟩ := hw
  have hT2 := hI.1.go hE2 hW2
  have hP : va_P (dC, dI) vwCl ((va_pl L2 f2 ++ [(ou, .inl (co, 1, .inr (.inl fo2)))]) ++ mw gm m0 bm i a) _ := hP
  have hD : va_D _ ((va_pl L2 f2 ++ [(ou, .inl (co, 1, .inr (.inl fo2)))]) ++ mw gm m0 bm i a) := hD
  refine W.eq (g2 := F0 m 537 ls [.int z_3]) rfl ?_
  refine lv_istore (lv' := [(5, .int z_3), (4, .int ii), (3, .ref ou), (2, .ref m0), (1, .ref x0), (0, .ref b)]) hx hb dL_law_537 hl (by decide) rfl (fun ls hl => ?_)
  refine lv_aload_n hx hb dL_law_539 rfl (lv_at hl 3 rfl) ?_
  refine lv_aload_n hx hb dL_law_540 rfl (lv_at hl 5 rfl) ?_
  refine lv_iload hx hb dL_law_541 (lv_at hl 1 rfl) ?_
  refine lv_iconst (v := 1) hx hb dL_law_543 (by decide) ?_
  refine lv_iadd hx hb dL_law_544 ?_
  refine lv_topi (fun z_4 ez_4 => ?_)
  refine va_sld hx hb hX hbl hbA hS (sc_in ez_4 hii (by decide : (1 : Int32) = nI 1) (by decide) ht hLn) dL_law_545 ?_
  refine lv_topi (fun z_5 ez_5 => ?_)
  refine NV_V ⟨hx, hb, hml, hown, hts⟩ (m_X10_faultX l dC dI sa gm m0 bm i a z_5 _ ) (cwV 1 hts gL_law_X10_fault rfl rfl rfl (by decide +kernel) ⟨Nat.le_of_ble_eq_true rfl, Nat.le_of_ble_eq_true rfl⟩) hP hD (hK.sub [12, 13, 14, 15, 16, 17, 18, 19, 20, 21, 22, 23, 24, 25, 26, 27, 28, 29, 30, 31, 32, 33, 34, 35, 36, 37, 38, 39, 40] rfl) hS hA hev rfl rfl rfl rfl hl.1 rfl (Nat.le_of_ble_eq_true rfl) dL_law_546 ⟨by show _ + 0 ≤ 601024; omega, by show _ + 0 ≤ 7293034; omega⟩ (fun r u H locs hw hP hD hS => ?_)
  obtain ⟨x0_6, rfl⟩ : ∃ z, z = u := ⟨_, rfl⟩
  have hw : (∃ z : Int32, r = some (.int z)) ∧ ((z_5 = 0 ∧ x0_6 = 0 ∧ r = some (.int (i 23))) ∨ (z_5 = 1 ∧ x0_6 = 0 ∧ r = some (.int (i 24))) ∨ (¬ z_5 = 0 ∧ ¬ z_5 = 1 ∧ x0_6 = 1)) := hw
  obtain ⟨⟨z_7, rfl⟩, hwP⟩ := hw
  have hab0 : z_5 = z_2 := by rw [ez_5, ez_4, ez_2, ez_1]
  rw [hab0] at hwP
  obtain ⟨hth, hout⟩ := fa_both hCN2.1 hwP
  have hP : va_P (dC, dI) vwCl ((va_pl L2 f2 ++ [(ou, .inl (co, 1, .inr (.inl fo2)))]) ++ mw gm m0 bm (va_up i 0 x0_6) a) _ := hP
  have hD : va_D _ ((va_pl L2 f2 ++ [(ou, .inl (co, 1, .inr (.inl fo2)))]) ++ mw gm m0 bm (va_up i 0 x0_6) a) := hD
  refine W.eq (g2 := F0 m 549 ls [.int z_7]) rfl ?_
  refine lv_istore (lv' := [(6, .int z_7), (5, .int z_3), (4, .int ii), (3, .ref ou), (2, .ref m0), (1, .ref x0), (0, .ref b)]) hx hb dL_law_549 hl (by decide) rfl (fun ls hl => ?_)
  refine lv_goto (tgt := 938) hx hb dL_law_551 (by decide) ?_
  exact W.widen (by omega) (by omega) (hk L2 f2 fo2 (va_up i 0 x0_6) a _ _ _ ⟨hT2, ⟨hRF2, tt, hCN2.2, hag⟩, hI.2.2.1, hI.2.2.2.1, hI.2.2.2.2.1, hI.2.2.2.2.2⟩ hP hD hS (lv_sub hl [2, 3, 4, 5, 6] rfl))

set_option maxHeartbeats 4000000 in
set_option maxRecDepth 100000 in
theorem lo_run {p : Program} {l : Launch} {e : Env} {s : State} {m : MethodId} {below : List Frame} {meth : Method} {c : Code} {b Ln : Nat} {xs : Nat → Int32} (hlt : l.stackTraces = false) (C0 : lw_At p s m meth c b Ln xs) (hLn : Ln ≤ 3072) {dC : Nat → ClassId} {dI : Nat → Nat → Nat} {sa : Nat → Nat} (hev : ev sa (fun q : Nat => s.heap.size ≤ q) s s.heap) {x0 rdr tok tp ka sta vaa m0 ou : Nat} {co : ClassId} {g gm bm : Nat → Nat} (hK : va_K (dC, dI) vwCl (tyG g ++ [(co, .long)] ++ tyM gm) s) {L : List Nat} {f : Nat → va_E} {fo : Nat → Int64} {i : Nat → Int32} {a : Nat → Nat → Int32} {H : Heap} {locs : List Loc} {ls : Array Slot} {cells slots t : Nat} {ii : Int32} (hI : LI g (x0, rdr, tok, tp, ka, sta, vaa) L f i a) (hP : va_P (dC, dI) vwCl ((va_pl L f ++ [(ou, .inl (co, 1, .inr (.inl fo)))]) ++ mw gm m0 bm i a) H) (hD : va_D (fun q : Nat => s.heap.size ≤ q) ((va_pl L f ++ [(ou, .inl (co, 1, .inr (.inl fo)))]) ++ mw gm m0 bm i a)) (hS : va_S (fun q : Nat => s.heap.size ≤ q) s.heap H locs) (hl : lv_has ls 7 [(4, .int ii), (3, .ref ou), (2, .ref m0), (1, .ref x0), (0, .ref b)]) (hii : ii = nI (6 * t)) (ht : 6 * t + 6 ≤ Ln) (hc : cells + 303 ≤ 601024) (hs : slots + 2415 ≤ 7293034) (hk : ∀ (L2 : List Nat) (f2 : Nat → va_E) (fo2 : Nat → Int64) (i2 : Nat → Int32) (a2 : Nat → Nat → Int32) (H : Heap) (locs : List Loc) (ls : Array Slot), LI g (x0, rdr, tok, tp, ka, sta, vaa) L2 f2 i2 a2 → va_P (dC, dI) vwCl ((va_pl L2 f2 ++ [(ou, .inl (co, 1, .inr (.inl fo2)))]) ++ mw gm m0 bm i2 a2) H → va_D (fun q : Nat => s.heap.size ≤ q) ((va_pl L2 f2 ++ [(ou, .inl (co, 1, .inr (.inl fo2)))]) ++ mw gm m0 bm i2 a2) → va_S (fun q : Nat => s.heap.size ≤ q) s.heap H locs → lv_has ls 7 [(4, .int ii), (3, .ref ou), (2, .ref m0), (1, .ref x0), (0, .ref b)] → W p l e room_1 s m #[Value.ref b] below meth c H locs (cells + 303) (slots + 2415) (lw_Z below #[Value.ref b] s) (F0 m 938 ls [])) : W p l e room_1 s m #[Value.ref b] below meth c H locs cells slots (lw_Z below #[Value.ref b] s) (F0 m 554 ls []) := by
  obtain ⟨hx, hb, hr, hml, hown, hts, hX, hbl, hlocks, hgv⟩ := id C0
  have hown : s.vm.findClass RL = some m.cls := hown
  have hA : ∀ q : Nat, s.heap.size ≤ q → (fun q : Nat => s.heap.size ≤ q) q := fun _ h => h
  have hbA : ¬ (fun q : Nat => s.heap.size ≤ q) b := Nat.not_le.mpr hbl
  refine lv_aload_n hx hb dL_law_554 rfl (lv_at hl 3 rfl) ?_
  refine lv_aload_n hx hb dL_law_555 rfl (lv_at hl 4 rfl) ?_
  refine lv_iload hx hb dL_law_556 (lv_at hl 0 rfl) ?_
  refine lv_iconst (v := 1) hx hb dL_law_558 (by decide) ?_
  refine lv_iadd hx hb dL_law_559 ?_
  refine lv_topi (fun z_1 ez_1 => ?_)
  refine va_sld hx hb hX hbl hbA hS (sc_in ez_1 hii (by decide : (1 : Int32) = nI 1) (by decide) ht hLn) dL_law_560 ?_
  refine lv_topi (fun z_2 ez_2 => ?_)
  refine lv_aload_n hx hb dL_law_561 rfl (lv_at hl 4 rfl) ?_
  refine lv_iload hx hb dL_law_562 (lv_at hl 0 rfl) ?_
  refine lv_iconst (v := 2) hx hb dL_law_564 (by decide) ?_
  refine lv_iadd hx hb dL_law_565 ?_
  refine lv_topi (fun z_3 ez_3 => ?_)
  refine va_sld hx hb hX hbl hbA hS (sc_in ez_3 hii (by decide : (2 : Int32) = nI 2) (by decide) ht hLn) dL_law_566 ?_
  refine lv_topi (fun z_4 ez_4 => ?_)
  refine lv_aload_n hx hb dL_law_567 rfl (lv_at hl 4 rfl) ?_
  refine lv_iload hx hb dL_law_568 (lv_at hl 0 rfl) ?_
  refine lv_iconst (v := 3) hx hb dL_law_570 (by decide) ?_
  refine lv_iadd hx hb dL_law_571 ?_
  refine lv_topi (fun z_5 ez_5 => ?_)
  refine va_sld hx hb hX hbl hbA hS (sc_in ez_5 hii (by decide : (3 : Int32) = nI 3) (by decide) ht hLn) dL_law_572 ?_
  refine lv_topi (fun z_6 ez_6 => ?_)
  refine lv_aload_n hx hb dL_law_573 rfl (lv_at hl 1 rfl) ?_
  obtain ⟨tt, hCN, hag⟩ := hI.2.1.2
  refine NW_S (hh := [(0, 12, 15, 13)]) ⟨hx, hb, hml, hown, hts⟩ (w_run l dC dI sa hlt g _ _ x0 rdr tok tp ka sta vaa ou co _ z_2 z_4 z_6 (i 20) (i 23) (i 24) tt _ hI.1 hI.2.1.1 hCN hI.2.2.2.1.2) (vx_cwSW 5 hts gL_law_L_run rfl rfl rfl (by decide +kernel) ⟨Nat.le_of_ble_eq_true rfl, Nat.le_of_ble_eq_true rfl⟩) hP hD (hK.sub [0, 1, 2, 3, 4, 5, 6, 7, 8, 9, 10, 11] rfl) hS hA hev rfl hl.1 rfl (Nat.le_of_ble_eq_true rfl) dL_law_574 ⟨by show _ + 2 ≤ 601024; omega, by show _ + 12 ≤ 7293034; omega⟩ (fun r u H locs hw hP hD hS => ?_)
  obtain ⟨⟨L2, f2⟩, fo2⟩ := u
  have hw : (∃ z : Int32, r = some (.int z)) ∧ WT g L2 f2 ∧ Ext L f L2 f2 ∧ RF (x0, rdr, tok, tp, ka, sta, vaa) f2 ∧ CN (x0, rdr, tok, tp, ka, sta, vaa) f2 (i 20) (i 23) (i 24) tt := hw
  obtain ⟨⟨z_7, rfl⟩, hW2, hE2, hRF2, hCN2⟩ := hw
  have hT2 := hI.1.go hE2 hW2
  have hP : va_P (dC, dI) vwCl ((va_pl L2 f2 ++ [(ou, .inl (co, 1, .inr (.inl fo2)))]) ++ mw gm m0 bm i a) _ := hP
  have hD : va_D _ ((va_pl L2 f2 ++ [(ou, .inl (co, 1, .inr (.inl fo2)))]) ++ mw gm m0 bm i a) := hD
  refine W.eq (g2 := F0 m 577 ls [.int z_7]) rfl ?_
  refine lv_istore (lv' := [(5, .int z_7), (4, .int ii), (3, .ref ou), (2, .ref m0), (1, .ref x0), (0, .ref b)]) hx hb dL_law_577 hl (by decide) rfl (fun ls hl => ?_)
  refine lv_aload_n hx hb dL_law_579 rfl (lv_at hl 3 rfl) ?_
  refine lv_aload_n hx hb dL_law_580 rfl (lv_at hl 5 rfl) ?_
  refine lv_iload hx hb dL_law_581 (lv_at hl 1 rfl) ?_
  refine lv_iconst (v := 1) hx hb dL_law_583 (by decide) ?_
  refine lv_iadd hx hb dL_law_584 ?_
  refine lv_topi (fun z_8 ez_8 => ?_)
  refine va_sld hx hb hX hbl hbA hS (sc_in ez_8 hii (by decide : (1 : Int32) = nI 1) (by decide) ht hLn) dL_law_585 ?_
  refine lv_topi (fun z_9 ez_9 => ?_)
  refine lv_aload_n hx hb dL_law_586 rfl (lv_at hl 5 rfl) ?_
  refine lv_iload hx hb dL_law_587 (lv_at hl 1 rfl) ?_
  refine lv_iconst (v := 2) hx hb dL_law_589 (by decide) ?_
  refine lv_iadd hx hb dL_law_590 ?_
  refine lv_topi (fun z_10 ez_10 => ?_)
  refine va_sld hx hb hX hbl hbA hS (sc_in ez_10 hii (by decide : (2 : Int32) = nI 2) (by decide) ht hLn) dL_law_591 ?_
  refine lv_topi (fun z_11 ez_11 => ?_)
  refine lv_aload_n hx hb dL_law_592 rfl (lv_at hl 5 rfl) ?_
  refine lv_iload hx hb dL_law_593 (lv_at hl 1 rfl) ?_
  refine lv_iconst (v := 3) hx hb dL_law_595 (by decide) ?_
  refine lv_iadd hx hb dL_law_596 ?_
  refine lv_topi (fun z_12 ez_12 => ?_)
  refine va_sld hx hb hX hbl hbA hS (sc_in ez_12 hii (by decide : (3 : Int32) = nI 3) (by decide) ht hLn) dL_law_597 ?_
  refine lv_topi (fun z_13 ez_13 => ?_)
  obtain ⟨V, dp, hND, hFI⟩ := hI.2.2.2.2.1.run z_9
  refine NV_V ⟨hx, hb, hml, hown, hts⟩ (m_X10_run l dC dI sa gm m0 bm V dp i a z_9 z_11 z_13 _ hI.2.2.1 hND hFI) (cwV 3 hts gL_law_X10_run rfl rfl rfl (by decide +kernel) ⟨Nat.le_of_ble_eq_true rfl, Nat.le_of_ble_eq_true rfl⟩) hP hD (hK.sub [12, 13, 14, 15, 16, 17, 18, 19, 20, 21, 22, 23, 24, 25, 26, 27, 28, 29, 30, 31, 32, 33, 34, 35, 36, 37, 38, 39, 40] rfl) hS hA hev rfl rfl rfl rfl hl.1 rfl (Nat.le_of_ble_eq_true rfl) dL_law_598 ⟨by show _ + 0 ≤ 601024; omega, by show _ + 0 ≤ 7293034; omega⟩ (fun r u H locs hw hP hD hS => ?_)
  obtain ⟨x0_14, x1_15, x2_16, x39_17, x40_18, x41_19, x42_20, x43_21, x44_22, x45_23, y4_24, y5_25, y6_26, y7_27, y8_28, y9_29, y10_30, y11_31, y14_32, y15_33, y17_34, y18_35⟩ := u
  have hw : (∃ z : Int32, r = some (.int z)) ∧ (True) := hw
  obtain ⟨⟨z_36, rfl⟩, hwP⟩ := hw
  have hP : va_P (dC, dI) vwCl ((va_pl L2 f2 ++ [(ou, .inl (co, 1, .inr (.inl fo2)))]) ++ mw gm m0 bm (va_up (va_up (va_up (va_up (va_up (va_up (va_up (va_up (va_up (va_up i 0 x0_14) 1 x1_15) 2 x2_16) 39 x39_17) 40 x40_18) 41 x41_19) 42 x42_20) 43 x43_21) 44 x44_22) 45 x45_23) (va_up (va_up (va_up (va_up (va_up (va_up (va_up (va_up (va_up (va_up (va_up (va_up a 4 y4_24) 5 y5_25) 6 y6_26) 7 y7_27) 8 y8_28) 9 y9_29) 10 y10_30) 11 y11_31) 14 y14_32) 15 y15_33) 17 y17_34) 18 y18_35)) _ := hP
  have hD : va_D _ ((va_pl L2 f2 ++ [(ou, .inl (co, 1, .inr (.inl fo2)))]) ++ mw gm m0 bm (va_up (va_up (va_up (va_up (va_up (va_up (va_up (va_up (va_up (va_up i 0 x0_14) 1 x1_15) 2 x2_16) 39 x39_17) 40 x40_18) 41 x41_19) 42 x42_20) 43 x43_21) 44 x44_22) 45 x45_23) (va_up (va_up (va_up (va_up (va_up (va_up (va_up (va_up (va_up (va_up (va_up (va_up a 4 y4_24) 5 y5_25) 6 y6_26) 7 y7_27) 8 y8_28) 9 y9_29) 10 y10_30) 11 y11_31) 14 y14_32) 15 y15_33) 17 y17_34) 18 y18_35)) := hD
  refine W.eq (g2 := F0 m 601 ls [.int z_36]) rfl ?_
  refine lv_istore (lv' := [(6, .int z_36), (5, .int z_7), (4, .int ii), (3, .ref ou), (2, .ref m0), (1, .ref x0), (0, .ref b)]) hx hb dL_law_601 hl (by decide) rfl (fun ls hl => ?_)
  refine lv_goto (tgt := 938) hx hb dL_law_603 (by decide) ?_
  exact W.widen (by omega) (by omega) (hk L2 f2 fo2 (va_up (va_up (va_up (va_up (va_up (va_up (va_up (va_up (va_up (va_up i 0 x0_14) 1 x1_15) 2 x2_16) 39 x39_17) 40 x40_18) 41 x41_19) 42 x42_20) 43 x43_21) 44 x44_22) 45 x45_23) (va_up (va_up (va_up (va_up (va_up (va_up (va_up (va_up (va_up (va_up (va_up (va_up a 4 y4_24) 5 y5_25) 6 y6_26) 7 y7_27) 8 y8_28) 9 y9_29) 10 y10_30) 11 y11_31) 14 y14_32) 15 y15_33) 17 y17_34) 18 y18_35) _ _ _ ⟨hT2, ⟨hRF2, tt, hCN2, hag⟩, hI.2.2.1, hI.2.2.2.1, hI.2.2.2.2.1, hI.2.2.2.2.2⟩ hP hD hS (lv_sub hl [2, 3, 4, 5, 6] rfl))

set_option maxHeartbeats 4000000 in
set_option maxRecDepth 100000 in
theorem lo_ran {p : Program} {l : Launch} {e : Env} {s : State} {m : MethodId} {below : List Frame} {meth : Method} {c : Code} {b Ln : Nat} {xs : Nat → Int32} (hlt : l.stackTraces = false) (C0 : lw_At p s m meth c b Ln xs) (hLn : Ln ≤ 3072) {dC : Nat → ClassId} {dI : Nat → Nat → Nat} {sa : Nat → Nat} (hev : ev sa (fun q : Nat => s.heap.size ≤ q) s s.heap) {x0 rdr tok tp ka sta vaa m0 ou : Nat} {co : ClassId} {g gm bm : Nat → Nat} (hK : va_K (dC, dI) vwCl (tyG g ++ [(co, .long)] ++ tyM gm) s) {L : List Nat} {f : Nat → va_E} {fo : Nat → Int64} {i : Nat → Int32} {a : Nat → Nat → Int32} {H : Heap} {locs : List Loc} {ls : Array Slot} {cells slots t : Nat} {ii : Int32} (hI : LI g (x0, rdr, tok, tp, ka, sta, vaa) L f i a) (hP : va_P (dC, dI) vwCl ((va_pl L f ++ [(ou, .inl (co, 1, .inr (.inl fo)))]) ++ mw gm m0 bm i a) H) (hD : va_D (fun q : Nat => s.heap.size ≤ q) ((va_pl L f ++ [(ou, .inl (co, 1, .inr (.inl fo)))]) ++ mw gm m0 bm i a)) (hS : va_S (fun q : Nat => s.heap.size ≤ q) s.heap H locs) (hl : lv_has ls 7 [(4, .int ii), (3, .ref ou), (2, .ref m0), (1, .ref x0), (0, .ref b)]) (hii : ii = nI (6 * t)) (ht : 6 * t + 6 ≤ Ln) (hc : cells + 303 ≤ 601024) (hs : slots + 2415 ≤ 7293034) (hk : ∀ (L2 : List Nat) (f2 : Nat → va_E) (fo2 : Nat → Int64) (i2 : Nat → Int32) (a2 : Nat → Nat → Int32) (H : Heap) (locs : List Loc) (ls : Array Slot), LI g (x0, rdr, tok, tp, ka, sta, vaa) L2 f2 i2 a2 → va_P (dC, dI) vwCl ((va_pl L2 f2 ++ [(ou, .inl (co, 1, .inr (.inl fo2)))]) ++ mw gm m0 bm i2 a2) H → va_D (fun q : Nat => s.heap.size ≤ q) ((va_pl L2 f2 ++ [(ou, .inl (co, 1, .inr (.inl fo2)))]) ++ mw gm m0 bm i2 a2) → va_S (fun q : Nat => s.heap.size ≤ q) s.heap H locs → lv_has ls 7 [(4, .int ii), (3, .ref ou), (2, .ref m0), (1, .ref x0), (0, .ref b)] → W p l e room_1 s m #[Value.ref b] below meth c H locs (cells + 303) (slots + 2415) (lw_Z below #[Value.ref b] s) (F0 m 938 ls [])) : W p l e room_1 s m #[Value.ref b] below meth c H locs cells slots (lw_Z below #[Value.ref b] s) (F0 m 606 ls []) := by
  obtain ⟨hx, hb, hr, hml, hown, hts, hX, hbl, hlocks, hgv⟩ := id C0
  have hown : s.vm.findClass RL = some m.cls := hown
  have hA : ∀ q : Nat, s.heap.size ≤ q → (fun q : Nat => s.heap.size ≤ q) q := fun _ h => h
  have hbA : ¬ (fun q : Nat => s.heap.size ≤ q) b := Nat.not_le.mpr hbl
  refine lv_aload_n hx hb dL_law_606 rfl (lv_at hl 3 rfl) ?_
  refine lv_aload_n hx hb dL_law_607 rfl (lv_at hl 4 rfl) ?_
  refine lv_iload hx hb dL_law_608 (lv_at hl 0 rfl) ?_
  refine lv_iconst (v := 1) hx hb dL_law_610 (by decide) ?_
  refine lv_iadd hx hb dL_law_611 ?_
  refine lv_topi (fun z_1 ez_1 => ?_)
  refine va_sld hx hb hX hbl hbA hS (sc_in ez_1 hii (by decide : (1 : Int32) = nI 1) (by decide) ht hLn) dL_law_612 ?_
  refine lv_topi (fun z_2 ez_2 => ?_)
  refine lv_aload_n hx hb dL_law_613 rfl (lv_at hl 1 rfl) ?_
  obtain ⟨tt, hCN, hag⟩ := hI.2.1.2
  refine NW_S (hh := [(0, 9, 12, 13)]) ⟨hx, hb, hml, hown, hts⟩ (w_ran l dC dI sa hlt g _ _ x0 rdr tok tp ka sta vaa ou co _ z_2 (i 20) (i 23) (i 24) tt _ hI.1 hI.2.1.1 hCN hI.2.2.2.1.2) (vx_cwSW 3 hts gL_law_L_ran rfl rfl rfl (by decide +kernel) ⟨Nat.le_of_ble_eq_true rfl, Nat.le_of_ble_eq_true rfl⟩) hP hD (hK.sub [0, 1, 2, 3, 4, 5, 6, 7, 8, 9, 10, 11] rfl) hS hA hev rfl hl.1 rfl (Nat.le_of_ble_eq_true rfl) dL_law_614 ⟨by show _ + 1 ≤ 601024; omega, by show _ + 6 ≤ 7293034; omega⟩ (fun r u H locs hw hP hD hS => ?_)
  obtain ⟨⟨L2, f2⟩, fo2⟩ := u
  have hw : (∃ z : Int32, r = some (.int z)) ∧ WT g L2 f2 ∧ Ext L f L2 f2 ∧ RF (x0, rdr, tok, tp, ka, sta, vaa) f2 ∧ CN (x0, rdr, tok, tp, ka, sta, vaa) f2 (i 20) (i 23) (i 24) tt := hw
  obtain ⟨⟨z_3, rfl⟩, hW2, hE2, hRF2, hCN2⟩ := hw
  have hT2 := hI.1.go hE2 hW2
  have hP : va_P (dC, dI) vwCl ((va_pl L2 f2 ++ [(ou, .inl (co, 1, .inr (.inl fo2)))]) ++ mw gm m0 bm i a) _ := hP
  have hD : va_D _ ((va_pl L2 f2 ++ [(ou, .inl (co, 1, .inr (.inl fo2)))]) ++ mw gm m0 bm i a) := hD
  refine W.eq (g2 := F0 m 617 ls [.int z_3]) rfl ?_
  refine lv_istore (lv' := [(5, .int z_3), (4, .int ii), (3, .ref ou), (2, .ref m0), (1, .ref x0), (0, .ref b)]) hx hb dL_law_617 hl (by decide) rfl (fun ls hl => ?_)
  refine lv_aload_n hx hb dL_law_619 rfl (lv_at hl 3 rfl) ?_
  refine lv_aload_n hx hb dL_law_620 rfl (lv_at hl 5 rfl) ?_
  refine lv_iload hx hb dL_law_621 (lv_at hl 1 rfl) ?_
  refine lv_iconst (v := 1) hx hb dL_law_623 (by decide) ?_
  refine lv_iadd hx hb dL_law_624 ?_
  refine lv_topi (fun z_4 ez_4 => ?_)
  refine va_sld hx hb hX hbl hbA hS (sc_in ez_4 hii (by decide : (1 : Int32) = nI 1) (by decide) ht hLn) dL_law_625 ?_
  refine lv_topi (fun z_5 ez_5 => ?_)
  refine NV_V ⟨hx, hb, hml, hown, hts⟩ (m_X10_ran l dC dI sa gm m0 bm i a z_5 _ ) (cwV 1 hts gL_law_X10_ran rfl rfl rfl (by decide +kernel) ⟨Nat.le_of_ble_eq_true rfl, Nat.le_of_ble_eq_true rfl⟩) hP hD (hK.sub [12, 13, 14, 15, 16, 17, 18, 19, 20, 21, 22, 23, 24, 25, 26, 27, 28, 29, 30, 31, 32, 33, 34, 35, 36, 37, 38, 39, 40] rfl) hS hA hev rfl rfl rfl rfl hl.1 rfl (Nat.le_of_ble_eq_true rfl) dL_law_626 ⟨by show _ + 0 ≤ 601024; omega, by show _ + 0 ≤ 7293034; omega⟩ (fun r u H locs hw hP hD hS => ?_)
  obtain ⟨x0_6, rfl⟩ : ∃ z, z = u := ⟨_, rfl⟩
  have hw : (∃ z : Int32, r = some (.int z)) ∧ (True) := hw
  obtain ⟨⟨z_7, rfl⟩, hwP⟩ := hw
  have hP : va_P (dC, dI) vwCl ((va_pl L2 f2 ++ [(ou, .inl (co, 1, .inr (.inl fo2)))]) ++ mw gm m0 bm (va_up i 0 x0_6) a) _ := hP
  have hD : va_D _ ((va_pl L2 f2 ++ [(ou, .inl (co, 1, .inr (.inl fo2)))]) ++ mw gm m0 bm (va_up i 0 x0_6) a) := hD
  refine W.eq (g2 := F0 m 629 ls [.int z_7]) rfl ?_
  refine lv_istore (lv' := [(6, .int z_7), (5, .int z_3), (4, .int ii), (3, .ref ou), (2, .ref m0), (1, .ref x0), (0, .ref b)]) hx hb dL_law_629 hl (by decide) rfl (fun ls hl => ?_)
  refine lv_goto (tgt := 938) hx hb dL_law_631 (by decide) ?_
  exact W.widen (by omega) (by omega) (hk L2 f2 fo2 (va_up i 0 x0_6) a _ _ _ ⟨hT2, ⟨hRF2, tt, hCN2, hag⟩, hI.2.2.1, hI.2.2.2.1, hI.2.2.2.2.1, hI.2.2.2.2.2⟩ hP hD hS (lv_sub hl [2, 3, 4, 5, 6] rfl))

set_option maxHeartbeats 4000000 in
set_option maxRecDepth 100000 in
theorem lo_plan {p : Program} {l : Launch} {e : Env} {s : State} {m : MethodId} {below : List Frame} {meth : Method} {c : Code} {b Ln : Nat} {xs : Nat → Int32} (hlt : l.stackTraces = false) (C0 : lw_At p s m meth c b Ln xs) (hLn : Ln ≤ 3072) {dC : Nat → ClassId} {dI : Nat → Nat → Nat} {sa : Nat → Nat} (hev : ev sa (fun q : Nat => s.heap.size ≤ q) s s.heap) {x0 rdr tok tp ka sta vaa m0 ou : Nat} {co : ClassId} {g gm bm : Nat → Nat} (hK : va_K (dC, dI) vwCl (tyG g ++ [(co, .long)] ++ tyM gm) s) {L : List Nat} {f : Nat → va_E} {fo : Nat → Int64} {i : Nat → Int32} {a : Nat → Nat → Int32} {H : Heap} {locs : List Loc} {ls : Array Slot} {cells slots t : Nat} {ii : Int32} (hI : LI g (x0, rdr, tok, tp, ka, sta, vaa) L f i a) (hP : va_P (dC, dI) vwCl ((va_pl L f ++ [(ou, .inl (co, 1, .inr (.inl fo)))]) ++ mw gm m0 bm i a) H) (hD : va_D (fun q : Nat => s.heap.size ≤ q) ((va_pl L f ++ [(ou, .inl (co, 1, .inr (.inl fo)))]) ++ mw gm m0 bm i a)) (hS : va_S (fun q : Nat => s.heap.size ≤ q) s.heap H locs) (hl : lv_has ls 7 [(4, .int ii), (3, .ref ou), (2, .ref m0), (1, .ref x0), (0, .ref b)]) (hii : ii = nI (6 * t)) (ht : 6 * t + 6 ≤ Ln) (hc : cells + 303 ≤ 601024) (hs : slots + 2415 ≤ 7293034) (hk : ∀ (L2 : List Nat) (f2 : Nat → va_E) (fo2 : Nat → Int64) (i2 : Nat → Int32) (a2 : Nat → Nat → Int32) (H : Heap) (locs : List Loc) (ls : Array Slot), LI g (x0, rdr, tok, tp, ka, sta, vaa) L2 f2 i2 a2 → va_P (dC, dI) vwCl ((va_pl L2 f2 ++ [(ou, .inl (co, 1, .inr (.inl fo2)))]) ++ mw gm m0 bm i2 a2) H → va_D (fun q : Nat => s.heap.size ≤ q) ((va_pl L2 f2 ++ [(ou, .inl (co, 1, .inr (.inl fo2)))]) ++ mw gm m0 bm i2 a2) → va_S (fun q : Nat => s.heap.size ≤ q) s.heap H locs → lv_has ls 7 [(4, .int ii), (3, .ref ou), (2, .ref m0), (1, .ref x0), (0, .ref b)] → W p l e room_1 s m #[Value.ref b] below meth c H locs (cells + 303) (slots + 2415) (lw_Z below #[Value.ref b] s) (F0 m 938 ls [])) : W p l e room_1 s m #[Value.ref b] below meth c H locs cells slots (lw_Z below #[Value.ref b] s) (F0 m 634 ls []) := by
  obtain ⟨hx, hb, hr, hml, hown, hts, hX, hbl, hlocks, hgv⟩ := id C0
  have hown : s.vm.findClass RL = some m.cls := hown
  have hA : ∀ q : Nat, s.heap.size ≤ q → (fun q : Nat => s.heap.size ≤ q) q := fun _ h => h
  have hbA : ¬ (fun q : Nat => s.heap.size ≤ q) b := Nat.not_le.mpr hbl
  refine lv_aload_n hx hb dL_law_634 rfl (lv_at hl 3 rfl) ?_
  refine lv_aload_n hx hb dL_law_635 rfl (lv_at hl 4 rfl) ?_
  refine lv_iload hx hb dL_law_636 (lv_at hl 0 rfl) ?_
  refine lv_iconst (v := 1) hx hb dL_law_638 (by decide) ?_
  refine lv_iadd hx hb dL_law_639 ?_
  refine lv_topi (fun z_1 ez_1 => ?_)
  refine va_sld hx hb hX hbl hbA hS (sc_in ez_1 hii (by decide : (1 : Int32) = nI 1) (by decide) ht hLn) dL_law_640 ?_
  refine lv_topi (fun z_2 ez_2 => ?_)
  refine lv_aload_n hx hb dL_law_641 rfl (lv_at hl 4 rfl) ?_
  refine lv_iload hx hb dL_law_642 (lv_at hl 0 rfl) ?_
  refine lv_iconst (v := 2) hx hb dL_law_644 (by decide) ?_
  refine lv_iadd hx hb dL_law_645 ?_
  refine lv_topi (fun z_3 ez_3 => ?_)
  refine va_sld hx hb hX hbl hbA hS (sc_in ez_3 hii (by decide : (2 : Int32) = nI 2) (by decide) ht hLn) dL_law_646 ?_
  refine lv_topi (fun z_4 ez_4 => ?_)
  refine lv_aload_n hx hb dL_law_647 rfl (lv_at hl 4 rfl) ?_
  refine lv_iload hx hb dL_law_648 (lv_at hl 0 rfl) ?_
  refine lv_iconst (v := 3) hx hb dL_law_650 (by decide) ?_
  refine lv_iadd hx hb dL_law_651 ?_
  refine lv_topi (fun z_5 ez_5 => ?_)
  refine va_sld hx hb hX hbl hbA hS (sc_in ez_5 hii (by decide : (3 : Int32) = nI 3) (by decide) ht hLn) dL_law_652 ?_
  refine lv_topi (fun z_6 ez_6 => ?_)
  refine lv_aload_n hx hb dL_law_653 rfl (lv_at hl 4 rfl) ?_
  refine lv_iload hx hb dL_law_654 (lv_at hl 0 rfl) ?_
  refine lv_iconst (v := 4) hx hb dL_law_656 (by decide) ?_
  refine lv_iadd hx hb dL_law_657 ?_
  refine lv_topi (fun z_7 ez_7 => ?_)
  refine va_sld hx hb hX hbl hbA hS (sc_in ez_7 hii (by decide : (4 : Int32) = nI 4) (by decide) ht hLn) dL_law_658 ?_
  refine lv_topi (fun z_8 ez_8 => ?_)
  refine lv_aload_n hx hb dL_law_659 rfl (lv_at hl 1 rfl) ?_
  obtain ⟨tt, hCN, hag⟩ := hI.2.1.2
  refine NW_S (hh := [(0, 14, 17, 13), (0, 14, 21, 18)]) ⟨hx, hb, hml, hown, hts⟩ (w_plan l dC dI sa hlt g _ _ x0 rdr tok tp ka sta vaa ou co _ z_2 z_4 z_6 z_8 (i 20) (i 23) (i 24) tt _ hI.1 hI.2.1.1 hCN hI.2.2.2.1.2) (vx_cwSW 6 hts gL_law_L_plan rfl rfl rfl (by decide +kernel) ⟨Nat.le_of_ble_eq_true rfl, Nat.le_of_ble_eq_true rfl⟩) hP hD (hK.sub [0, 1, 2, 3, 4, 5, 6, 7, 8, 9, 10, 11] rfl) hS hA hev rfl hl.1 rfl (Nat.le_of_ble_eq_true rfl) dL_law_660 ⟨by show _ + 3 ≤ 601024; omega, by show _ + 18 ≤ 7293034; omega⟩ (fun r u H locs hw hP hD hS => ?_)
  obtain ⟨⟨L2, f2⟩, fo2⟩ := u
  have hw : (∃ z : Int32, r = some (.int z)) ∧ WT g L2 f2 ∧ Ext L f L2 f2 ∧ RF (x0, rdr, tok, tp, ka, sta, vaa) f2 ∧ CN (x0, rdr, tok, tp, ka, sta, vaa) f2 (i 20) (i 23) (i 24) tt := hw
  obtain ⟨⟨z_9, rfl⟩, hW2, hE2, hRF2, hCN2⟩ := hw
  have hT2 := hI.1.go hE2 hW2
  have hP : va_P (dC, dI) vwCl ((va_pl L2 f2 ++ [(ou, .inl (co, 1, .inr (.inl fo2)))]) ++ mw gm m0 bm i a) _ := hP
  have hD : va_D _ ((va_pl L2 f2 ++ [(ou, .inl (co, 1, .inr (.inl fo2)))]) ++ mw gm m0 bm i a) := hD
  refine W.eq (g2 := F0 m 663 ls [.int z_9]) rfl ?_
  refine lv_istore (lv' := [(5, .int z_9), (4, .int ii), (3, .ref ou), (2, .ref m0), (1, .ref x0), (0, .ref b)]) hx hb dL_law_663 hl (by decide) rfl (fun ls hl => ?_)
  refine lv_aload_n hx hb dL_law_665 rfl (lv_at hl 3 rfl) ?_
  refine lv_aload_n hx hb dL_law_666 rfl (lv_at hl 5 rfl) ?_
  refine lv_iload hx hb dL_law_667 (lv_at hl 1 rfl) ?_
  refine lv_iconst (v := 1) hx hb dL_law_669 (by decide) ?_
  refine lv_iadd hx hb dL_law_670 ?_
  refine lv_topi (fun z_10 ez_10 => ?_)
  refine va_sld hx hb hX hbl hbA hS (sc_in ez_10 hii (by decide : (1 : Int32) = nI 1) (by decide) ht hLn) dL_law_671 ?_
  refine lv_topi (fun z_11 ez_11 => ?_)
  refine lv_aload_n hx hb dL_law_672 rfl (lv_at hl 5 rfl) ?_
  refine lv_iload hx hb dL_law_673 (lv_at hl 1 rfl) ?_
  refine lv_iconst (v := 2) hx hb dL_law_675 (by decide) ?_
  refine lv_iadd hx hb dL_law_676 ?_
  refine lv_topi (fun z_12 ez_12 => ?_)
  refine va_sld hx hb hX hbl hbA hS (sc_in ez_12 hii (by decide : (2 : Int32) = nI 2) (by decide) ht hLn) dL_law_677 ?_
  refine lv_topi (fun z_13 ez_13 => ?_)
  refine lv_aload_n hx hb dL_law_678 rfl (lv_at hl 5 rfl) ?_
  refine lv_iload hx hb dL_law_679 (lv_at hl 1 rfl) ?_
  refine lv_iconst (v := 3) hx hb dL_law_681 (by decide) ?_
  refine lv_iadd hx hb dL_law_682 ?_
  refine lv_topi (fun z_14 ez_14 => ?_)
  refine va_sld hx hb hX hbl hbA hS (sc_in ez_14 hii (by decide : (3 : Int32) = nI 3) (by decide) ht hLn) dL_law_683 ?_
  refine lv_topi (fun z_15 ez_15 => ?_)
  refine lv_aload_n hx hb dL_law_684 rfl (lv_at hl 5 rfl) ?_
  refine lv_iload hx hb dL_law_685 (lv_at hl 1 rfl) ?_
  refine lv_iconst (v := 4) hx hb dL_law_687 (by decide) ?_
  refine lv_iadd hx hb dL_law_688 ?_
  refine lv_topi (fun z_16 ez_16 => ?_)
  refine va_sld hx hb hX hbl hbA hS (sc_in ez_16 hii (by decide : (4 : Int32) = nI 4) (by decide) ht hLn) dL_law_689 ?_
  refine lv_topi (fun z_17 ez_17 => ?_)
  refine NV_V ⟨hx, hb, hml, hown, hts⟩ (m_X10_plan l dC dI sa gm m0 bm i a z_11 z_13 z_15 z_17 _ hI.2.2.1 hI.2.2.2.2.2) (cwV 4 hts gL_law_X10_plan rfl rfl rfl (by decide +kernel) ⟨Nat.le_of_ble_eq_true rfl, Nat.le_of_ble_eq_true rfl⟩) hP hD (hK.sub [12, 13, 14, 15, 16, 17, 18, 19, 20, 21, 22, 23, 24, 25, 26, 27, 28, 29, 30, 31, 32, 33, 34, 35, 36, 37, 38, 39, 40] rfl) hS hA hev rfl rfl rfl rfl hl.1 rfl (Nat.le_of_ble_eq_true rfl) dL_law_690 ⟨by show _ + 0 ≤ 601024; omega, by show _ + 0 ≤ 7293034; omega⟩ (fun r u H locs hw hP hD hS => ?_)
  obtain ⟨x0_18, x46_19, y4_20, y5_21, y6_22, y7_23, y14_24, y15_25, y47_26, y48_27, y49_28, y50_29⟩ := u
  have hw : (∃ z : Int32, r = some (.int z)) ∧ (x46_19.toInt ≤ 3) := hw
  obtain ⟨⟨z_30, rfl⟩, hwP⟩ := hw
  have hP : va_P (dC, dI) vwCl ((va_pl L2 f2 ++ [(ou, .inl (co, 1, .inr (.inl fo2)))]) ++ mw gm m0 bm (va_up (va_up i 0 x0_18) 46 x46_19) (va_up (va_up (va_up (va_up (va_up (va_up (va_up (va_up (va_up (va_up a 4 y4_20) 5 y5_21) 6 y6_22) 7 y7_23) 14 y14_24) 15 y15_25) 47 y47_26) 48 y48_27) 49 y49_28) 50 y50_29)) _ := hP
  have hD : va_D _ ((va_pl L2 f2 ++ [(ou, .inl (co, 1, .inr (.inl fo2)))]) ++ mw gm m0 bm (va_up (va_up i 0 x0_18) 46 x46_19) (va_up (va_up (va_up (va_up (va_up (va_up (va_up (va_up (va_up (va_up a 4 y4_20) 5 y5_21) 6 y6_22) 7 y7_23) 14 y14_24) 15 y15_25) 47 y47_26) 48 y48_27) 49 y49_28) 50 y50_29)) := hD
  refine W.eq (g2 := F0 m 693 ls [.int z_30]) rfl ?_
  refine lv_istore (lv' := [(6, .int z_30), (5, .int z_9), (4, .int ii), (3, .ref ou), (2, .ref m0), (1, .ref x0), (0, .ref b)]) hx hb dL_law_693 hl (by decide) rfl (fun ls hl => ?_)
  refine lv_goto (tgt := 938) hx hb dL_law_695 (by decide) ?_
  exact W.widen (by omega) (by omega) (hk L2 f2 fo2 (va_up (va_up i 0 x0_18) 46 x46_19) (va_up (va_up (va_up (va_up (va_up (va_up (va_up (va_up (va_up (va_up a 4 y4_20) 5 y5_21) 6 y6_22) 7 y7_23) 14 y14_24) 15 y15_25) 47 y47_26) 48 y48_27) 49 y49_28) 50 y50_29) _ _ _ ⟨hT2, ⟨hRF2, tt, hCN2, hag⟩, hI.2.2.1, hI.2.2.2.1, hI.2.2.2.2.1, hwP⟩ hP hD hS (lv_sub hl [2, 3, 4, 5, 6] rfl))

set_option maxHeartbeats 4000000 in
set_option maxRecDepth 100000 in
theorem lo_planned {p : Program} {l : Launch} {e : Env} {s : State} {m : MethodId} {below : List Frame} {meth : Method} {c : Code} {b Ln : Nat} {xs : Nat → Int32} (hlt : l.stackTraces = false) (C0 : lw_At p s m meth c b Ln xs) (hLn : Ln ≤ 3072) {dC : Nat → ClassId} {dI : Nat → Nat → Nat} {sa : Nat → Nat} (hev : ev sa (fun q : Nat => s.heap.size ≤ q) s s.heap) {x0 rdr tok tp ka sta vaa m0 ou : Nat} {co : ClassId} {g gm bm : Nat → Nat} (hK : va_K (dC, dI) vwCl (tyG g ++ [(co, .long)] ++ tyM gm) s) {L : List Nat} {f : Nat → va_E} {fo : Nat → Int64} {i : Nat → Int32} {a : Nat → Nat → Int32} {H : Heap} {locs : List Loc} {ls : Array Slot} {cells slots t : Nat} {ii : Int32} (hI : LI g (x0, rdr, tok, tp, ka, sta, vaa) L f i a) (hP : va_P (dC, dI) vwCl ((va_pl L f ++ [(ou, .inl (co, 1, .inr (.inl fo)))]) ++ mw gm m0 bm i a) H) (hD : va_D (fun q : Nat => s.heap.size ≤ q) ((va_pl L f ++ [(ou, .inl (co, 1, .inr (.inl fo)))]) ++ mw gm m0 bm i a)) (hS : va_S (fun q : Nat => s.heap.size ≤ q) s.heap H locs) (hl : lv_has ls 7 [(4, .int ii), (3, .ref ou), (2, .ref m0), (1, .ref x0), (0, .ref b)]) (hii : ii = nI (6 * t)) (ht : 6 * t + 6 ≤ Ln) (hc : cells + 303 ≤ 601024) (hs : slots + 2415 ≤ 7293034) (hk : ∀ (L2 : List Nat) (f2 : Nat → va_E) (fo2 : Nat → Int64) (i2 : Nat → Int32) (a2 : Nat → Nat → Int32) (H : Heap) (locs : List Loc) (ls : Array Slot), LI g (x0, rdr, tok, tp, ka, sta, vaa) L2 f2 i2 a2 → va_P (dC, dI) vwCl ((va_pl L2 f2 ++ [(ou, .inl (co, 1, .inr (.inl fo2)))]) ++ mw gm m0 bm i2 a2) H → va_D (fun q : Nat => s.heap.size ≤ q) ((va_pl L2 f2 ++ [(ou, .inl (co, 1, .inr (.inl fo2)))]) ++ mw gm m0 bm i2 a2) → va_S (fun q : Nat => s.heap.size ≤ q) s.heap H locs → lv_has ls 7 [(4, .int ii), (3, .ref ou), (2, .ref m0), (1, .ref x0), (0, .ref b)] → W p l e room_1 s m #[Value.ref b] below meth c H locs (cells + 303) (slots + 2415) (lw_Z below #[Value.ref b] s) (F0 m 938 ls [])) : W p l e room_1 s m #[Value.ref b] below meth c H locs cells slots (lw_Z below #[Value.ref b] s) (F0 m 698 ls []) := by
  obtain ⟨hx, hb, hr, hml, hown, hts, hX, hbl, hlocks, hgv⟩ := id C0
  have hown : s.vm.findClass RL = some m.cls := hown
  have hA : ∀ q : Nat, s.heap.size ≤ q → (fun q : Nat => s.heap.size ≤ q) q := fun _ h => h
  have hbA : ¬ (fun q : Nat => s.heap.size ≤ q) b := Nat.not_le.mpr hbl
  refine lv_aload_n hx hb dL_law_698 rfl (lv_at hl 3 rfl) ?_
  refine lv_aload_n hx hb dL_law_699 rfl (lv_at hl 4 rfl) ?_
  refine lv_iload hx hb dL_law_700 (lv_at hl 0 rfl) ?_
  refine lv_iconst (v := 1) hx hb dL_law_702 (by decide) ?_
  refine lv_iadd hx hb dL_law_703 ?_
  refine lv_topi (fun z_1 ez_1 => ?_)
  refine va_sld hx hb hX hbl hbA hS (sc_in ez_1 hii (by decide : (1 : Int32) = nI 1) (by decide) ht hLn) dL_law_704 ?_
  refine lv_topi (fun z_2 ez_2 => ?_)
  refine lv_aload_n hx hb dL_law_705 rfl (lv_at hl 4 rfl) ?_
  refine lv_iload hx hb dL_law_706 (lv_at hl 0 rfl) ?_
  refine lv_iconst (v := 2) hx hb dL_law_708 (by decide) ?_
  refine lv_iadd hx hb dL_law_709 ?_
  refine lv_topi (fun z_3 ez_3 => ?_)
  refine va_sld hx hb hX hbl hbA hS (sc_in ez_3 hii (by decide : (2 : Int32) = nI 2) (by decide) ht hLn) dL_law_710 ?_
  refine lv_topi (fun z_4 ez_4 => ?_)
  refine lv_aload_n hx hb dL_law_711 rfl (lv_at hl 1 rfl) ?_
  obtain ⟨tt, hCN, hag⟩ := hI.2.1.2
  refine NW_S (hh := [(0, 10, 13, 13)]) ⟨hx, hb, hml, hown, hts⟩ (w_planned l dC dI sa hlt g _ _ x0 rdr tok tp ka sta vaa ou co _ z_2 z_4 (i 20) (i 23) (i 24) tt _ hI.1 hI.2.1.1 hCN hI.2.2.2.1.2) (vx_cwSW 4 hts gL_law_L_planned rfl rfl rfl (by decide +kernel) ⟨Nat.le_of_ble_eq_true rfl, Nat.le_of_ble_eq_true rfl⟩) hP hD (hK.sub [0, 1, 2, 3, 4, 5, 6, 7, 8, 9, 10, 11] rfl) hS hA hev rfl hl.1 rfl (Nat.le_of_ble_eq_true rfl) dL_law_712 ⟨by show _ + 1 ≤ 601024; omega, by show _ + 6 ≤ 7293034; omega⟩ (fun r u H locs hw hP hD hS => ?_)
  obtain ⟨⟨L2, f2⟩, fo2⟩ := u
  have hw : (∃ z : Int32, r = some (.int z)) ∧ WT g L2 f2 ∧ Ext L f L2 f2 ∧ RF (x0, rdr, tok, tp, ka, sta, vaa) f2 ∧ CN (x0, rdr, tok, tp, ka, sta, vaa) f2 (i 20) (i 23) (i 24) tt := hw
  obtain ⟨⟨z_5, rfl⟩, hW2, hE2, hRF2, hCN2⟩ := hw
  have hT2 := hI.1.go hE2 hW2
  have hP : va_P (dC, dI) vwCl ((va_pl L2 f2 ++ [(ou, .inl (co, 1, .inr (.inl fo2)))]) ++ mw gm m0 bm i a) _ := hP
  have hD : va_D _ ((va_pl L2 f2 ++ [(ou, .inl (co, 1, .inr (.inl fo2)))]) ++ mw gm m0 bm i a) := hD
  refine W.eq (g2 := F0 m 715 ls [.int z_5]) rfl ?_
  refine lv_istore (lv' := [(5, .int z_5), (4, .int ii), (3, .ref ou), (2, .ref m0), (1, .ref x0), (0, .ref b)]) hx hb dL_law_715 hl (by decide) rfl (fun ls hl => ?_)
  refine lv_aload_n hx hb dL_law_717 rfl (lv_at hl 3 rfl) ?_
  refine lv_aload_n hx hb dL_law_718 rfl (lv_at hl 5 rfl) ?_
  refine lv_iload hx hb dL_law_719 (lv_at hl 1 rfl) ?_
  refine lv_iconst (v := 1) hx hb dL_law_721 (by decide) ?_
  refine lv_iadd hx hb dL_law_722 ?_
  refine lv_topi (fun z_6 ez_6 => ?_)
  refine va_sld hx hb hX hbl hbA hS (sc_in ez_6 hii (by decide : (1 : Int32) = nI 1) (by decide) ht hLn) dL_law_723 ?_
  refine lv_topi (fun z_7 ez_7 => ?_)
  refine lv_aload_n hx hb dL_law_724 rfl (lv_at hl 5 rfl) ?_
  refine lv_iload hx hb dL_law_725 (lv_at hl 1 rfl) ?_
  refine lv_iconst (v := 2) hx hb dL_law_727 (by decide) ?_
  refine lv_iadd hx hb dL_law_728 ?_
  refine lv_topi (fun z_8 ez_8 => ?_)
  refine va_sld hx hb hX hbl hbA hS (sc_in ez_8 hii (by decide : (2 : Int32) = nI 2) (by decide) ht hLn) dL_law_729 ?_
  refine lv_topi (fun z_9 ez_9 => ?_)
  refine NV_V ⟨hx, hb, hml, hown, hts⟩ (m_X10_planned l dC dI sa gm m0 bm i a z_7 z_9 _ hI.2.2.2.2.2) (cwV 2 hts gL_law_X10_planned rfl rfl rfl (by decide +kernel) ⟨Nat.le_of_ble_eq_true rfl, Nat.le_of_ble_eq_true rfl⟩) hP hD (hK.sub [12, 13, 14, 15, 16, 17, 18, 19, 20, 21, 22, 23, 24, 25, 26, 27, 28, 29, 30, 31, 32, 33, 34, 35, 36, 37, 38, 39, 40] rfl) hS hA hev rfl rfl rfl rfl hl.1 rfl (Nat.le_of_ble_eq_true rfl) dL_law_730 ⟨by show _ + 0 ≤ 601024; omega, by show _ + 0 ≤ 7293034; omega⟩ (fun r u H locs hw hP hD hS => ?_)
  obtain ⟨x0_10, rfl⟩ : ∃ z, z = u := ⟨_, rfl⟩
  have hw : (∃ z : Int32, r = some (.int z)) ∧ (True) := hw
  obtain ⟨⟨z_11, rfl⟩, hwP⟩ := hw
  have hP : va_P (dC, dI) vwCl ((va_pl L2 f2 ++ [(ou, .inl (co, 1, .inr (.inl fo2)))]) ++ mw gm m0 bm (va_up i 0 x0_10) a) _ := hP
  have hD : va_D _ ((va_pl L2 f2 ++ [(ou, .inl (co, 1, .inr (.inl fo2)))]) ++ mw gm m0 bm (va_up i 0 x0_10) a) := hD
  refine W.eq (g2 := F0 m 733 ls [.int z_11]) rfl ?_
  refine lv_istore (lv' := [(6, .int z_11), (5, .int z_5), (4, .int ii), (3, .ref ou), (2, .ref m0), (1, .ref x0), (0, .ref b)]) hx hb dL_law_733 hl (by decide) rfl (fun ls hl => ?_)
  refine lv_goto (tgt := 938) hx hb dL_law_735 (by decide) ?_
  exact W.widen (by omega) (by omega) (hk L2 f2 fo2 (va_up i 0 x0_10) a _ _ _ ⟨hT2, ⟨hRF2, tt, hCN2, hag⟩, hI.2.2.1, hI.2.2.2.1, hI.2.2.2.2.1, hI.2.2.2.2.2⟩ hP hD hS (lv_sub hl [2, 3, 4, 5, 6] rfl))

set_option maxHeartbeats 4000000 in
set_option maxRecDepth 100000 in
theorem lo_vat {p : Program} {l : Launch} {e : Env} {s : State} {m : MethodId} {below : List Frame} {meth : Method} {c : Code} {b Ln : Nat} {xs : Nat → Int32} (hlt : l.stackTraces = false) (C0 : lw_At p s m meth c b Ln xs) (hLn : Ln ≤ 3072) {dC : Nat → ClassId} {dI : Nat → Nat → Nat} {sa : Nat → Nat} (hev : ev sa (fun q : Nat => s.heap.size ≤ q) s s.heap) {x0 rdr tok tp ka sta vaa m0 ou : Nat} {co : ClassId} {g gm bm : Nat → Nat} (hK : va_K (dC, dI) vwCl (tyG g ++ [(co, .long)] ++ tyM gm) s) {L : List Nat} {f : Nat → va_E} {fo : Nat → Int64} {i : Nat → Int32} {a : Nat → Nat → Int32} {H : Heap} {locs : List Loc} {ls : Array Slot} {cells slots t : Nat} {ii : Int32} (hI : LI g (x0, rdr, tok, tp, ka, sta, vaa) L f i a) (hP : va_P (dC, dI) vwCl ((va_pl L f ++ [(ou, .inl (co, 1, .inr (.inl fo)))]) ++ mw gm m0 bm i a) H) (hD : va_D (fun q : Nat => s.heap.size ≤ q) ((va_pl L f ++ [(ou, .inl (co, 1, .inr (.inl fo)))]) ++ mw gm m0 bm i a)) (hS : va_S (fun q : Nat => s.heap.size ≤ q) s.heap H locs) (hl : lv_has ls 7 [(4, .int ii), (3, .ref ou), (2, .ref m0), (1, .ref x0), (0, .ref b)]) (hii : ii = nI (6 * t)) (ht : 6 * t + 6 ≤ Ln) (hc : cells + 303 ≤ 601024) (hs : slots + 2415 ≤ 7293034) (hk : ∀ (L2 : List Nat) (f2 : Nat → va_E) (fo2 : Nat → Int64) (i2 : Nat → Int32) (a2 : Nat → Nat → Int32) (H : Heap) (locs : List Loc) (ls : Array Slot), LI g (x0, rdr, tok, tp, ka, sta, vaa) L2 f2 i2 a2 → va_P (dC, dI) vwCl ((va_pl L2 f2 ++ [(ou, .inl (co, 1, .inr (.inl fo2)))]) ++ mw gm m0 bm i2 a2) H → va_D (fun q : Nat => s.heap.size ≤ q) ((va_pl L2 f2 ++ [(ou, .inl (co, 1, .inr (.inl fo2)))]) ++ mw gm m0 bm i2 a2) → va_S (fun q : Nat => s.heap.size ≤ q) s.heap H locs → lv_has ls 7 [(4, .int ii), (3, .ref ou), (2, .ref m0), (1, .ref x0), (0, .ref b)] → W p l e room_1 s m #[Value.ref b] below meth c H locs (cells + 303) (slots + 2415) (lw_Z below #[Value.ref b] s) (F0 m 938 ls [])) : W p l e room_1 s m #[Value.ref b] below meth c H locs cells slots (lw_Z below #[Value.ref b] s) (F0 m 738 ls []) := by
  obtain ⟨hx, hb, hr, hml, hown, hts, hX, hbl, hlocks, hgv⟩ := id C0
  have hown : s.vm.findClass RL = some m.cls := hown
  have hA : ∀ q : Nat, s.heap.size ≤ q → (fun q : Nat => s.heap.size ≤ q) q := fun _ h => h
  have hbA : ¬ (fun q : Nat => s.heap.size ≤ q) b := Nat.not_le.mpr hbl
  refine lv_aload_n hx hb dL_law_738 rfl (lv_at hl 3 rfl) ?_
  refine lv_aload_n hx hb dL_law_739 rfl (lv_at hl 4 rfl) ?_
  refine lv_iload hx hb dL_law_740 (lv_at hl 0 rfl) ?_
  refine lv_iconst (v := 1) hx hb dL_law_742 (by decide) ?_
  refine lv_iadd hx hb dL_law_743 ?_
  refine lv_topi (fun z_1 ez_1 => ?_)
  refine va_sld hx hb hX hbl hbA hS (sc_in ez_1 hii (by decide : (1 : Int32) = nI 1) (by decide) ht hLn) dL_law_744 ?_
  refine lv_topi (fun z_2 ez_2 => ?_)
  refine lv_aload_n hx hb dL_law_745 rfl (lv_at hl 4 rfl) ?_
  refine lv_iload hx hb dL_law_746 (lv_at hl 0 rfl) ?_
  refine lv_iconst (v := 2) hx hb dL_law_748 (by decide) ?_
  refine lv_iadd hx hb dL_law_749 ?_
  refine lv_topi (fun z_3 ez_3 => ?_)
  refine va_sld hx hb hX hbl hbA hS (sc_in ez_3 hii (by decide : (2 : Int32) = nI 2) (by decide) ht hLn) dL_law_750 ?_
  refine lv_topi (fun z_4 ez_4 => ?_)
  refine lv_aload_n hx hb dL_law_751 rfl (lv_at hl 1 rfl) ?_
  obtain ⟨tt, hCN, hag⟩ := hI.2.1.2
  refine NW_S (hh := [(0, 10, 13, 13)]) ⟨hx, hb, hml, hown, hts⟩ (w_vat l dC dI sa hlt g _ _ x0 rdr tok tp ka sta vaa ou co _ z_2 z_4 (i 20) (i 23) (i 24) tt _ hI.1 hI.2.1.1 hCN hI.2.2.2.1.2) (vx_cwSW 4 hts gL_law_L_vat rfl rfl rfl (by decide +kernel) ⟨Nat.le_of_ble_eq_true rfl, Nat.le_of_ble_eq_true rfl⟩) hP hD (hK.sub [0, 1, 2, 3, 4, 5, 6, 7, 8, 9, 10, 11] rfl) hS hA hev rfl hl.1 rfl (Nat.le_of_ble_eq_true rfl) dL_law_752 ⟨by show _ + 2 ≤ 601024; omega, by show _ + 12 ≤ 7293034; omega⟩ (fun r u H locs hw hP hD hS => ?_)
  obtain ⟨⟨L2, f2⟩, fo2⟩ := u
  have hw : (∃ z : Int32, r = some (.int z)) ∧ WT g L2 f2 ∧ Ext L f L2 f2 ∧ RF (x0, rdr, tok, tp, ka, sta, vaa) f2 ∧ CN (x0, rdr, tok, tp, ka, sta, vaa) f2 (i 20) (i 23) (i 24) tt := hw
  obtain ⟨⟨z_5, rfl⟩, hW2, hE2, hRF2, hCN2⟩ := hw
  have hT2 := hI.1.go hE2 hW2
  have hP : va_P (dC, dI) vwCl ((va_pl L2 f2 ++ [(ou, .inl (co, 1, .inr (.inl fo2)))]) ++ mw gm m0 bm i a) _ := hP
  have hD : va_D _ ((va_pl L2 f2 ++ [(ou, .inl (co, 1, .inr (.inl fo2)))]) ++ mw gm m0 bm i a) := hD
  refine W.eq (g2 := F0 m 755 ls [.int z_5]) rfl ?_
  refine lv_istore (lv' := [(5, .int z_5), (4, .int ii), (3, .ref ou), (2, .ref m0), (1, .ref x0), (0, .ref b)]) hx hb dL_law_755 hl (by decide) rfl (fun ls hl => ?_)
  refine lv_aload_n hx hb dL_law_757 rfl (lv_at hl 3 rfl) ?_
  refine lv_aload_n hx hb dL_law_758 rfl (lv_at hl 5 rfl) ?_
  refine lv_iload hx hb dL_law_759 (lv_at hl 1 rfl) ?_
  refine lv_iconst (v := 1) hx hb dL_law_761 (by decide) ?_
  refine lv_iadd hx hb dL_law_762 ?_
  refine lv_topi (fun z_6 ez_6 => ?_)
  refine va_sld hx hb hX hbl hbA hS (sc_in ez_6 hii (by decide : (1 : Int32) = nI 1) (by decide) ht hLn) dL_law_763 ?_
  refine lv_topi (fun z_7 ez_7 => ?_)
  refine lv_aload_n hx hb dL_law_764 rfl (lv_at hl 5 rfl) ?_
  refine lv_iload hx hb dL_law_765 (lv_at hl 1 rfl) ?_
  refine lv_iconst (v := 2) hx hb dL_law_767 (by decide) ?_
  refine lv_iadd hx hb dL_law_768 ?_
  refine lv_topi (fun z_8 ez_8 => ?_)
  refine va_sld hx hb hX hbl hbA hS (sc_in ez_8 hii (by decide : (2 : Int32) = nI 2) (by decide) ht hLn) dL_law_769 ?_
  refine lv_topi (fun z_9 ez_9 => ?_)
  refine NV_V ⟨hx, hb, hml, hown, hts⟩ (m_X10_vat l dC dI sa gm m0 bm i a z_7 z_9 _ ) (cwV 2 hts gL_law_X10_vat rfl rfl rfl (by decide +kernel) ⟨Nat.le_of_ble_eq_true rfl, Nat.le_of_ble_eq_true rfl⟩) hP hD (hK.sub [12, 13, 14, 15, 16, 17, 18, 19, 20, 21, 22, 23, 24, 25, 26, 27, 28, 29, 30, 31, 32, 33, 34, 35, 36, 37, 38, 39, 40] rfl) hS hA hev rfl rfl rfl rfl hl.1 rfl (Nat.le_of_ble_eq_true rfl) dL_law_770 ⟨by show _ + 0 ≤ 601024; omega, by show _ + 0 ≤ 7293034; omega⟩ (fun r u H locs hw hP hD hS => ?_)
  obtain ⟨x0_10, rfl⟩ : ∃ z, z = u := ⟨_, rfl⟩
  have hw : (∃ z : Int32, r = some (.int z)) ∧ (True) := hw
  obtain ⟨⟨z_11, rfl⟩, hwP⟩ := hw
  have hP : va_P (dC, dI) vwCl ((va_pl L2 f2 ++ [(ou, .inl (co, 1, .inr (.inl fo2)))]) ++ mw gm m0 bm (va_up i 0 x0_10) a) _ := hP
  have hD : va_D _ ((va_pl L2 f2 ++ [(ou, .inl (co, 1, .inr (.inl fo2)))]) ++ mw gm m0 bm (va_up i 0 x0_10) a) := hD
  refine W.eq (g2 := F0 m 773 ls [.int z_11]) rfl ?_
  refine lv_istore (lv' := [(6, .int z_11), (5, .int z_5), (4, .int ii), (3, .ref ou), (2, .ref m0), (1, .ref x0), (0, .ref b)]) hx hb dL_law_773 hl (by decide) rfl (fun ls hl => ?_)
  refine lv_goto (tgt := 938) hx hb dL_law_775 (by decide) ?_
  exact W.widen (by omega) (by omega) (hk L2 f2 fo2 (va_up i 0 x0_10) a _ _ _ ⟨hT2, ⟨hRF2, tt, hCN2, hag⟩, hI.2.2.1, hI.2.2.2.1, hI.2.2.2.2.1, hI.2.2.2.2.2⟩ hP hD hS (lv_sub hl [2, 3, 4, 5, 6] rfl))

set_option maxHeartbeats 4000000 in
set_option maxRecDepth 100000 in
theorem lo_about {p : Program} {l : Launch} {e : Env} {s : State} {m : MethodId} {below : List Frame} {meth : Method} {c : Code} {b Ln : Nat} {xs : Nat → Int32} (hlt : l.stackTraces = false) (C0 : lw_At p s m meth c b Ln xs) (hLn : Ln ≤ 3072) {dC : Nat → ClassId} {dI : Nat → Nat → Nat} {sa : Nat → Nat} (hev : ev sa (fun q : Nat => s.heap.size ≤ q) s s.heap) {x0 rdr tok tp ka sta vaa m0 ou : Nat} {co : ClassId} {g gm bm : Nat → Nat} (hK : va_K (dC, dI) vwCl (tyG g ++ [(co, .long)] ++ tyM gm) s) {L : List Nat} {f : Nat → va_E} {fo : Nat → Int64} {i : Nat → Int32} {a : Nat → Nat → Int32} {H : Heap} {locs : List Loc} {ls : Array Slot} {cells slots t : Nat} {ii : Int32} (hI : LI g (x0, rdr, tok, tp, ka, sta, vaa) L f i a) (hP : va_P (dC, dI) vwCl ((va_pl L f ++ [(ou, .inl (co, 1, .inr (.inl fo)))]) ++ mw gm m0 bm i a) H) (hD : va_D (fun q : Nat => s.heap.size ≤ q) ((va_pl L f ++ [(ou, .inl (co, 1, .inr (.inl fo)))]) ++ mw gm m0 bm i a)) (hS : va_S (fun q : Nat => s.heap.size ≤ q) s.heap H locs) (hl : lv_has ls 7 [(4, .int ii), (3, .ref ou), (2, .ref m0), (1, .ref x0), (0, .ref b)]) (hii : ii = nI (6 * t)) (ht : 6 * t + 6 ≤ Ln) (hc : cells + 303 ≤ 601024) (hs : slots + 2415 ≤ 7293034) (hk : ∀ (L2 : List Nat) (f2 : Nat → va_E) (fo2 : Nat → Int64) (i2 : Nat → Int32) (a2 : Nat → Nat → Int32) (H : Heap) (locs : List Loc) (ls : Array Slot), LI g (x0, rdr, tok, tp, ka, sta, vaa) L2 f2 i2 a2 → va_P (dC, dI) vwCl ((va_pl L2 f2 ++ [(ou, .inl (co, 1, .inr (.inl fo2)))]) ++ mw gm m0 bm i2 a2) H → va_D (fun q : Nat => s.heap.size ≤ q) ((va_pl L2 f2 ++ [(ou, .inl (co, 1, .inr (.inl fo2)))]) ++ mw gm m0 bm i2 a2) → va_S (fun q : Nat => s.heap.size ≤ q) s.heap H locs → lv_has ls 7 [(4, .int ii), (3, .ref ou), (2, .ref m0), (1, .ref x0), (0, .ref b)] → W p l e room_1 s m #[Value.ref b] below meth c H locs (cells + 303) (slots + 2415) (lw_Z below #[Value.ref b] s) (F0 m 938 ls [])) : W p l e room_1 s m #[Value.ref b] below meth c H locs cells slots (lw_Z below #[Value.ref b] s) (F0 m 778 ls []) := by
  obtain ⟨hx, hb, hr, hml, hown, hts, hX, hbl, hlocks, hgv⟩ := id C0
  have hown : s.vm.findClass RL = some m.cls := hown
  have hA : ∀ q : Nat, s.heap.size ≤ q → (fun q : Nat => s.heap.size ≤ q) q := fun _ h => h
  have hbA : ¬ (fun q : Nat => s.heap.size ≤ q) b := Nat.not_le.mpr hbl
  refine lv_aload_n hx hb dL_law_778 rfl (lv_at hl 3 rfl) ?_
  refine lv_aload_n hx hb dL_law_779 rfl (lv_at hl 4 rfl) ?_
  refine lv_iload hx hb dL_law_780 (lv_at hl 0 rfl) ?_
  refine lv_iconst (v := 1) hx hb dL_law_782 (by decide) ?_
  refine lv_iadd hx hb dL_law_783 ?_
  refine lv_topi (fun z_1 ez_1 => ?_)
  refine va_sld hx hb hX hbl hbA hS (sc_in ez_1 hii (by decide : (1 : Int32) = nI 1) (by decide) ht hLn) dL_law_784 ?_
  refine lv_topi (fun z_2 ez_2 => ?_)
  refine lv_aload_n hx hb dL_law_785 rfl (lv_at hl 4 rfl) ?_
  refine lv_iload hx hb dL_law_786 (lv_at hl 0 rfl) ?_
  refine lv_iconst (v := 2) hx hb dL_law_788 (by decide) ?_
  refine lv_iadd hx hb dL_law_789 ?_
  refine lv_topi (fun z_3 ez_3 => ?_)
  refine va_sld hx hb hX hbl hbA hS (sc_in ez_3 hii (by decide : (2 : Int32) = nI 2) (by decide) ht hLn) dL_law_790 ?_
  refine lv_topi (fun z_4 ez_4 => ?_)
  refine lv_aload_n hx hb dL_law_791 rfl (lv_at hl 1 rfl) ?_
  obtain ⟨tt, hCN, hag⟩ := hI.2.1.2
  refine NW_S (hh := [(0, 10, 13, 13)]) ⟨hx, hb, hml, hown, hts⟩ (w_about l dC dI sa hlt g _ _ x0 rdr tok tp ka sta vaa ou co _ z_2 z_4 (i 20) (i 23) (i 24) tt _ hI.1 hI.2.1.1 hCN hI.2.2.2.1.2) (vx_cwSW 4 hts gL_law_L_about rfl rfl rfl (by decide +kernel) ⟨Nat.le_of_ble_eq_true rfl, Nat.le_of_ble_eq_true rfl⟩) hP hD (hK.sub [0, 1, 2, 3, 4, 5, 6, 7, 8, 9, 10, 11] rfl) hS hA hev rfl hl.1 rfl (Nat.le_of_ble_eq_true rfl) dL_law_792 ⟨by show _ + 2 ≤ 601024; omega, by show _ + 12 ≤ 7293034; omega⟩ (fun r u H locs hw hP hD hS => ?_)
  obtain ⟨⟨L2, f2⟩, fo2⟩ := u
  have hw : (∃ z : Int32, r = some (.int z)) ∧ WT g L2 f2 ∧ Ext L f L2 f2 ∧ RF (x0, rdr, tok, tp, ka, sta, vaa) f2 ∧ CN (x0, rdr, tok, tp, ka, sta, vaa) f2 (i 20) (i 23) (i 24) tt := hw
  obtain ⟨⟨z_5, rfl⟩, hW2, hE2, hRF2, hCN2⟩ := hw
  have hT2 := hI.1.go hE2 hW2
  have hP : va_P (dC, dI) vwCl ((va_pl L2 f2 ++ [(ou, .inl (co, 1, .inr (.inl fo2)))]) ++ mw gm m0 bm i a) _ := hP
  have hD : va_D _ ((va_pl L2 f2 ++ [(ou, .inl (co, 1, .inr (.inl fo2)))]) ++ mw gm m0 bm i a) := hD
  refine W.eq (g2 := F0 m 795 ls [.int z_5]) rfl ?_
  refine lv_istore (lv' := [(5, .int z_5), (4, .int ii), (3, .ref ou), (2, .ref m0), (1, .ref x0), (0, .ref b)]) hx hb dL_law_795 hl (by decide) rfl (fun ls hl => ?_)
  refine lv_aload_n hx hb dL_law_797 rfl (lv_at hl 3 rfl) ?_
  refine lv_aload_n hx hb dL_law_798 rfl (lv_at hl 5 rfl) ?_
  refine lv_iload hx hb dL_law_799 (lv_at hl 1 rfl) ?_
  refine lv_iconst (v := 1) hx hb dL_law_801 (by decide) ?_
  refine lv_iadd hx hb dL_law_802 ?_
  refine lv_topi (fun z_6 ez_6 => ?_)
  refine va_sld hx hb hX hbl hbA hS (sc_in ez_6 hii (by decide : (1 : Int32) = nI 1) (by decide) ht hLn) dL_law_803 ?_
  refine lv_topi (fun z_7 ez_7 => ?_)
  refine lv_aload_n hx hb dL_law_804 rfl (lv_at hl 5 rfl) ?_
  refine lv_iload hx hb dL_law_805 (lv_at hl 1 rfl) ?_
  refine lv_iconst (v := 2) hx hb dL_law_807 (by decide) ?_
  refine lv_iadd hx hb dL_law_808 ?_
  refine lv_topi (fun z_8 ez_8 => ?_)
  refine va_sld hx hb hX hbl hbA hS (sc_in ez_8 hii (by decide : (2 : Int32) = nI 2) (by decide) ht hLn) dL_law_809 ?_
  refine lv_topi (fun z_9 ez_9 => ?_)
  refine NV_V ⟨hx, hb, hml, hown, hts⟩ (m_X10_about l dC dI sa gm m0 bm i a z_7 z_9 _ hI.2.2.1) (cwV 2 hts gL_law_X10_about rfl rfl rfl (by decide +kernel) ⟨Nat.le_of_ble_eq_true rfl, Nat.le_of_ble_eq_true rfl⟩) hP hD (hK.sub [12, 13, 14, 15, 16, 17, 18, 19, 20, 21, 22, 23, 24, 25, 26, 27, 28, 29, 30, 31, 32, 33, 34, 35, 36, 37, 38, 39, 40] rfl) hS hA hev rfl rfl rfl rfl hl.1 rfl (Nat.le_of_ble_eq_true rfl) dL_law_810 ⟨by show _ + 0 ≤ 601024; omega, by show _ + 0 ≤ 7293034; omega⟩ (fun r u H locs hw hP hD hS => ?_)
  obtain ⟨x0_10, rfl⟩ : ∃ z, z = u := ⟨_, rfl⟩
  have hw : (∃ z : Int32, r = some (.int z)) ∧ (True) := hw
  obtain ⟨⟨z_11, rfl⟩, hwP⟩ := hw
  have hP : va_P (dC, dI) vwCl ((va_pl L2 f2 ++ [(ou, .inl (co, 1, .inr (.inl fo2)))]) ++ mw gm m0 bm (va_up i 0 x0_10) a) _ := hP
  have hD : va_D _ ((va_pl L2 f2 ++ [(ou, .inl (co, 1, .inr (.inl fo2)))]) ++ mw gm m0 bm (va_up i 0 x0_10) a) := hD
  refine W.eq (g2 := F0 m 813 ls [.int z_11]) rfl ?_
  refine lv_istore (lv' := [(6, .int z_11), (5, .int z_5), (4, .int ii), (3, .ref ou), (2, .ref m0), (1, .ref x0), (0, .ref b)]) hx hb dL_law_813 hl (by decide) rfl (fun ls hl => ?_)
  refine lv_goto (tgt := 938) hx hb dL_law_815 (by decide) ?_
  exact W.widen (by omega) (by omega) (hk L2 f2 fo2 (va_up i 0 x0_10) a _ _ _ ⟨hT2, ⟨hRF2, tt, hCN2, hag⟩, hI.2.2.1, hI.2.2.2.1, hI.2.2.2.2.1, hI.2.2.2.2.2⟩ hP hD hS (lv_sub hl [2, 3, 4, 5, 6] rfl))

set_option maxHeartbeats 4000000 in
set_option maxRecDepth 100000 in
theorem lo_count {p : Program} {l : Launch} {e : Env} {s : State} {m : MethodId} {below : List Frame} {meth : Method} {c : Code} {b Ln : Nat} {xs : Nat → Int32} (hlt : l.stackTraces = false) (C0 : lw_At p s m meth c b Ln xs) (hLn : Ln ≤ 3072) {dC : Nat → ClassId} {dI : Nat → Nat → Nat} {sa : Nat → Nat} (hev : ev sa (fun q : Nat => s.heap.size ≤ q) s s.heap) {x0 rdr tok tp ka sta vaa m0 ou : Nat} {co : ClassId} {g gm bm : Nat → Nat} (hK : va_K (dC, dI) vwCl (tyG g ++ [(co, .long)] ++ tyM gm) s) {L : List Nat} {f : Nat → va_E} {fo : Nat → Int64} {i : Nat → Int32} {a : Nat → Nat → Int32} {H : Heap} {locs : List Loc} {ls : Array Slot} {cells slots t : Nat} {ii : Int32} (hI : LI g (x0, rdr, tok, tp, ka, sta, vaa) L f i a) (hP : va_P (dC, dI) vwCl ((va_pl L f ++ [(ou, .inl (co, 1, .inr (.inl fo)))]) ++ mw gm m0 bm i a) H) (hD : va_D (fun q : Nat => s.heap.size ≤ q) ((va_pl L f ++ [(ou, .inl (co, 1, .inr (.inl fo)))]) ++ mw gm m0 bm i a)) (hS : va_S (fun q : Nat => s.heap.size ≤ q) s.heap H locs) (hl : lv_has ls 7 [(4, .int ii), (3, .ref ou), (2, .ref m0), (1, .ref x0), (0, .ref b)]) (hii : ii = nI (6 * t)) (ht : 6 * t + 6 ≤ Ln) (hc : cells + 303 ≤ 601024) (hs : slots + 2415 ≤ 7293034) (hk : ∀ (L2 : List Nat) (f2 : Nat → va_E) (fo2 : Nat → Int64) (i2 : Nat → Int32) (a2 : Nat → Nat → Int32) (H : Heap) (locs : List Loc) (ls : Array Slot), LI g (x0, rdr, tok, tp, ka, sta, vaa) L2 f2 i2 a2 → va_P (dC, dI) vwCl ((va_pl L2 f2 ++ [(ou, .inl (co, 1, .inr (.inl fo2)))]) ++ mw gm m0 bm i2 a2) H → va_D (fun q : Nat => s.heap.size ≤ q) ((va_pl L2 f2 ++ [(ou, .inl (co, 1, .inr (.inl fo2)))]) ++ mw gm m0 bm i2 a2) → va_S (fun q : Nat => s.heap.size ≤ q) s.heap H locs → lv_has ls 7 [(4, .int ii), (3, .ref ou), (2, .ref m0), (1, .ref x0), (0, .ref b)] → W p l e room_1 s m #[Value.ref b] below meth c H locs (cells + 303) (slots + 2415) (lw_Z below #[Value.ref b] s) (F0 m 938 ls [])) : W p l e room_1 s m #[Value.ref b] below meth c H locs cells slots (lw_Z below #[Value.ref b] s) (F0 m 818 ls []) := by
  obtain ⟨hx, hb, hr, hml, hown, hts, hX, hbl, hlocks, hgv⟩ := id C0
  have hown : s.vm.findClass RL = some m.cls := hown
  have hA : ∀ q : Nat, s.heap.size ≤ q → (fun q : Nat => s.heap.size ≤ q) q := fun _ h => h
  have hbA : ¬ (fun q : Nat => s.heap.size ≤ q) b := Nat.not_le.mpr hbl
  refine lv_aload_n hx hb dL_law_818 rfl (lv_at hl 3 rfl) ?_
  refine lv_aload_n hx hb dL_law_819 rfl (lv_at hl 4 rfl) ?_
  refine lv_iload hx hb dL_law_820 (lv_at hl 0 rfl) ?_
  refine lv_iconst (v := 1) hx hb dL_law_822 (by decide) ?_
  refine lv_iadd hx hb dL_law_823 ?_
  refine lv_topi (fun z_1 ez_1 => ?_)
  refine va_sld hx hb hX hbl hbA hS (sc_in ez_1 hii (by decide : (1 : Int32) = nI 1) (by decide) ht hLn) dL_law_824 ?_
  refine lv_topi (fun z_2 ez_2 => ?_)
  refine lv_aload_n hx hb dL_law_825 rfl (lv_at hl 1 rfl) ?_
  obtain ⟨tt, hCN, hag⟩ := hI.2.1.2
  refine NW_S (hh := [(0, 9, 12, 13)]) ⟨hx, hb, hml, hown, hts⟩ (w_count l dC dI sa hlt g _ _ x0 rdr tok tp ka sta vaa ou co _ z_2 (i 20) (i 23) (i 24) tt _ hI.1 hI.2.1.1 hCN hI.2.2.2.1.2) (vx_cwSW 3 hts gL_law_L_count rfl rfl rfl (by decide +kernel) ⟨Nat.le_of_ble_eq_true rfl, Nat.le_of_ble_eq_true rfl⟩) hP hD (hK.sub [0, 1, 2, 3, 4, 5, 6, 7, 8, 9, 10, 11] rfl) hS hA hev rfl hl.1 rfl (Nat.le_of_ble_eq_true rfl) dL_law_826 ⟨by show _ + 1 ≤ 601024; omega, by show _ + 6 ≤ 7293034; omega⟩ (fun r u H locs hw hP hD hS => ?_)
  obtain ⟨⟨L2, f2⟩, fo2⟩ := u
  have hw : (∃ z : Int32, r = some (.int z)) ∧ WT g L2 f2 ∧ Ext L f L2 f2 ∧ RF (x0, rdr, tok, tp, ka, sta, vaa) f2 ∧ CN (x0, rdr, tok, tp, ka, sta, vaa) f2 (i 20) (i 23) (i 24) tt := hw
  obtain ⟨⟨z_3, rfl⟩, hW2, hE2, hRF2, hCN2⟩ := hw
  have hT2 := hI.1.go hE2 hW2
  have hP : va_P (dC, dI) vwCl ((va_pl L2 f2 ++ [(ou, .inl (co, 1, .inr (.inl fo2)))]) ++ mw gm m0 bm i a) _ := hP
  have hD : va_D _ ((va_pl L2 f2 ++ [(ou, .inl (co, 1, .inr (.inl fo2)))]) ++ mw gm m0 bm i a) := hD
  refine W.eq (g2 := F0 m 829 ls [.int z_3]) rfl ?_
  refine lv_istore (lv' := [(5, .int z_3), (4, .int ii), (3, .ref ou), (2, .ref m0), (1, .ref x0), (0, .ref b)]) hx hb dL_law_829 hl (by decide) rfl (fun ls hl => ?_)
  refine lv_aload_n hx hb dL_law_831 rfl (lv_at hl 3 rfl) ?_
  refine lv_aload_n hx hb dL_law_832 rfl (lv_at hl 5 rfl) ?_
  refine lv_iload hx hb dL_law_833 (lv_at hl 1 rfl) ?_
  refine lv_iconst (v := 1) hx hb dL_law_835 (by decide) ?_
  refine lv_iadd hx hb dL_law_836 ?_
  refine lv_topi (fun z_4 ez_4 => ?_)
  refine va_sld hx hb hX hbl hbA hS (sc_in ez_4 hii (by decide : (1 : Int32) = nI 1) (by decide) ht hLn) dL_law_837 ?_
  refine lv_topi (fun z_5 ez_5 => ?_)
  refine NV_V ⟨hx, hb, hml, hown, hts⟩ (m_X10_count l dC dI sa gm m0 bm i a z_5 _ ) (cwV 1 hts gL_law_X10_count rfl rfl rfl (by decide +kernel) ⟨Nat.le_of_ble_eq_true rfl, Nat.le_of_ble_eq_true rfl⟩) hP hD (hK.sub [12, 13, 14, 15, 16, 17, 18, 19, 20, 21, 22, 23, 24, 25, 26, 27, 28, 29, 30, 31, 32, 33, 34, 35, 36, 37, 38, 39, 40] rfl) hS hA hev rfl rfl rfl rfl hl.1 rfl (Nat.le_of_ble_eq_true rfl) dL_law_838 ⟨by show _ + 0 ≤ 601024; omega, by show _ + 0 ≤ 7293034; omega⟩ (fun r u H locs hw hP hD hS => ?_)
  obtain ⟨x0_6, rfl⟩ : ∃ z, z = u := ⟨_, rfl⟩
  have hw : (∃ z : Int32, r = some (.int z)) ∧ (True) := hw
  obtain ⟨⟨z_7, rfl⟩, hwP⟩ := hw
  have hP : va_P (dC, dI) vwCl ((va_pl L2 f2 ++ [(ou, .inl (co, 1, .inr (.inl fo2)))]) ++ mw gm m0 bm (va_up i 0 x0_6) a) _ := hP
  have hD : va_D _ ((va_pl L2 f2 ++ [(ou, .inl (co, 1, .inr (.inl fo2)))]) ++ mw gm m0 bm (va_up i 0 x0_6) a) := hD
  refine W.eq (g2 := F0 m 841 ls [.int z_7]) rfl ?_
  refine lv_istore (lv' := [(6, .int z_7), (5, .int z_3), (4, .int ii), (3, .ref ou), (2, .ref m0), (1, .ref x0), (0, .ref b)]) hx hb dL_law_841 hl (by decide) rfl (fun ls hl => ?_)
  refine lv_goto (tgt := 938) hx hb dL_law_843 (by decide) ?_
  exact W.widen (by omega) (by omega) (hk L2 f2 fo2 (va_up i 0 x0_6) a _ _ _ ⟨hT2, ⟨hRF2, tt, hCN2, hag⟩, hI.2.2.1, hI.2.2.2.1, hI.2.2.2.2.1, hI.2.2.2.2.2⟩ hP hD hS (lv_sub hl [2, 3, 4, 5, 6] rfl))

set_option maxHeartbeats 4000000 in
set_option maxRecDepth 100000 in
theorem lo_faded {p : Program} {l : Launch} {e : Env} {s : State} {m : MethodId} {below : List Frame} {meth : Method} {c : Code} {b Ln : Nat} {xs : Nat → Int32} (hlt : l.stackTraces = false) (C0 : lw_At p s m meth c b Ln xs) (hLn : Ln ≤ 3072) {dC : Nat → ClassId} {dI : Nat → Nat → Nat} {sa : Nat → Nat} (hev : ev sa (fun q : Nat => s.heap.size ≤ q) s s.heap) {x0 rdr tok tp ka sta vaa m0 ou : Nat} {co : ClassId} {g gm bm : Nat → Nat} (hK : va_K (dC, dI) vwCl (tyG g ++ [(co, .long)] ++ tyM gm) s) {L : List Nat} {f : Nat → va_E} {fo : Nat → Int64} {i : Nat → Int32} {a : Nat → Nat → Int32} {H : Heap} {locs : List Loc} {ls : Array Slot} {cells slots t : Nat} {ii : Int32} (hI : LI g (x0, rdr, tok, tp, ka, sta, vaa) L f i a) (hP : va_P (dC, dI) vwCl ((va_pl L f ++ [(ou, .inl (co, 1, .inr (.inl fo)))]) ++ mw gm m0 bm i a) H) (hD : va_D (fun q : Nat => s.heap.size ≤ q) ((va_pl L f ++ [(ou, .inl (co, 1, .inr (.inl fo)))]) ++ mw gm m0 bm i a)) (hS : va_S (fun q : Nat => s.heap.size ≤ q) s.heap H locs) (hl : lv_has ls 7 [(4, .int ii), (3, .ref ou), (2, .ref m0), (1, .ref x0), (0, .ref b)]) (hii : ii = nI (6 * t)) (ht : 6 * t + 6 ≤ Ln) (hc : cells + 303 ≤ 601024) (hs : slots + 2415 ≤ 7293034) (hk : ∀ (L2 : List Nat) (f2 : Nat → va_E) (fo2 : Nat → Int64) (i2 : Nat → Int32) (a2 : Nat → Nat → Int32) (H : Heap) (locs : List Loc) (ls : Array Slot), LI g (x0, rdr, tok, tp, ka, sta, vaa) L2 f2 i2 a2 → va_P (dC, dI) vwCl ((va_pl L2 f2 ++ [(ou, .inl (co, 1, .inr (.inl fo2)))]) ++ mw gm m0 bm i2 a2) H → va_D (fun q : Nat => s.heap.size ≤ q) ((va_pl L2 f2 ++ [(ou, .inl (co, 1, .inr (.inl fo2)))]) ++ mw gm m0 bm i2 a2) → va_S (fun q : Nat => s.heap.size ≤ q) s.heap H locs → lv_has ls 7 [(4, .int ii), (3, .ref ou), (2, .ref m0), (1, .ref x0), (0, .ref b)] → W p l e room_1 s m #[Value.ref b] below meth c H locs (cells + 303) (slots + 2415) (lw_Z below #[Value.ref b] s) (F0 m 938 ls [])) : W p l e room_1 s m #[Value.ref b] below meth c H locs cells slots (lw_Z below #[Value.ref b] s) (F0 m 846 ls []) := by
  obtain ⟨hx, hb, hr, hml, hown, hts, hX, hbl, hlocks, hgv⟩ := id C0
  have hown : s.vm.findClass RL = some m.cls := hown
  have hA : ∀ q : Nat, s.heap.size ≤ q → (fun q : Nat => s.heap.size ≤ q) q := fun _ h => h
  have hbA : ¬ (fun q : Nat => s.heap.size ≤ q) b := Nat.not_le.mpr hbl
  refine lv_aload_n hx hb dL_law_846 rfl (lv_at hl 3 rfl) ?_
  refine lv_aload_n hx hb dL_law_847 rfl (lv_at hl 4 rfl) ?_
  refine lv_iload hx hb dL_law_848 (lv_at hl 0 rfl) ?_
  refine lv_iconst (v := 1) hx hb dL_law_850 (by decide) ?_
  refine lv_iadd hx hb dL_law_851 ?_
  refine lv_topi (fun z_1 ez_1 => ?_)
  refine va_sld hx hb hX hbl hbA hS (sc_in ez_1 hii (by decide : (1 : Int32) = nI 1) (by decide) ht hLn) dL_law_852 ?_
  refine lv_topi (fun z_2 ez_2 => ?_)
  refine lv_aload_n hx hb dL_law_853 rfl (lv_at hl 4 rfl) ?_
  refine lv_iload hx hb dL_law_854 (lv_at hl 0 rfl) ?_
  refine lv_iconst (v := 2) hx hb dL_law_856 (by decide) ?_
  refine lv_iadd hx hb dL_law_857 ?_
  refine lv_topi (fun z_3 ez_3 => ?_)
  refine va_sld hx hb hX hbl hbA hS (sc_in ez_3 hii (by decide : (2 : Int32) = nI 2) (by decide) ht hLn) dL_law_858 ?_
  refine lv_topi (fun z_4 ez_4 => ?_)
  refine lv_aload_n hx hb dL_law_859 rfl (lv_at hl 4 rfl) ?_
  refine lv_iload hx hb dL_law_860 (lv_at hl 0 rfl) ?_
  refine lv_iconst (v := 3) hx hb dL_law_862 (by decide) ?_
  refine lv_iadd hx hb dL_law_863 ?_
  refine lv_topi (fun z_5 ez_5 => ?_)
  refine va_sld hx hb hX hbl hbA hS (sc_in ez_5 hii (by decide : (3 : Int32) = nI 3) (by decide) ht hLn) dL_law_864 ?_
  refine lv_topi (fun z_6 ez_6 => ?_)
  refine lv_aload_n hx hb dL_law_865 rfl (lv_at hl 1 rfl) ?_
  obtain ⟨tt, hCN, hag⟩ := hI.2.1.2
  refine NW_S (hh := [(0, 12, 15, 13), (0, 12, 19, 18)]) ⟨hx, hb, hml, hown, hts⟩ (w_faded l dC dI sa hlt g _ _ x0 rdr tok tp ka sta vaa ou co _ z_2 z_4 z_6 (i 20) (i 23) (i 24) tt _ hI.1 hI.2.1.1 hCN hI.2.2.2.1.2) (vx_cwSW 5 hts gL_law_L_faded rfl rfl rfl (by decide +kernel) ⟨Nat.le_of_ble_eq_true rfl, Nat.le_of_ble_eq_true rfl⟩) hP hD (hK.sub [0, 1, 2, 3, 4, 5, 6, 7, 8, 9, 10, 11] rfl) hS hA hev rfl hl.1 rfl (Nat.le_of_ble_eq_true rfl) dL_law_866 ⟨by show _ + 2 ≤ 601024; omega, by show _ + 12 ≤ 7293034; omega⟩ (fun r u H locs hw hP hD hS => ?_)
  obtain ⟨⟨L2, f2⟩, fo2⟩ := u
  have hw : (∃ z : Int32, r = some (.int z)) ∧ WT g L2 f2 ∧ Ext L f L2 f2 ∧ RF (x0, rdr, tok, tp, ka, sta, vaa) f2 ∧ CN (x0, rdr, tok, tp, ka, sta, vaa) f2 (i 20) (i 23) (i 24) tt := hw
  obtain ⟨⟨z_7, rfl⟩, hW2, hE2, hRF2, hCN2⟩ := hw
  have hT2 := hI.1.go hE2 hW2
  have hP : va_P (dC, dI) vwCl ((va_pl L2 f2 ++ [(ou, .inl (co, 1, .inr (.inl fo2)))]) ++ mw gm m0 bm i a) _ := hP
  have hD : va_D _ ((va_pl L2 f2 ++ [(ou, .inl (co, 1, .inr (.inl fo2)))]) ++ mw gm m0 bm i a) := hD
  refine W.eq (g2 := F0 m 869 ls [.int z_7]) rfl ?_
  refine lv_istore (lv' := [(5, .int z_7), (4, .int ii), (3, .ref ou), (2, .ref m0), (1, .ref x0), (0, .ref b)]) hx hb dL_law_869 hl (by decide) rfl (fun ls hl => ?_)
  refine lv_aload_n hx hb dL_law_871 rfl (lv_at hl 3 rfl) ?_
  refine lv_aload_n hx hb dL_law_872 rfl (lv_at hl 5 rfl) ?_
  refine lv_iload hx hb dL_law_873 (lv_at hl 1 rfl) ?_
  refine lv_iconst (v := 1) hx hb dL_law_875 (by decide) ?_
  refine lv_iadd hx hb dL_law_876 ?_
  refine lv_topi (fun z_8 ez_8 => ?_)
  refine va_sld hx hb hX hbl hbA hS (sc_in ez_8 hii (by decide : (1 : Int32) = nI 1) (by decide) ht hLn) dL_law_877 ?_
  refine lv_topi (fun z_9 ez_9 => ?_)
  refine lv_aload_n hx hb dL_law_878 rfl (lv_at hl 5 rfl) ?_
  refine lv_iload hx hb dL_law_879 (lv_at hl 1 rfl) ?_
  refine lv_iconst (v := 2) hx hb dL_law_881 (by decide) ?_
  refine lv_iadd hx hb dL_law_882 ?_
  refine lv_topi (fun z_10 ez_10 => ?_)
  refine va_sld hx hb hX hbl hbA hS (sc_in ez_10 hii (by decide : (2 : Int32) = nI 2) (by decide) ht hLn) dL_law_883 ?_
  refine lv_topi (fun z_11 ez_11 => ?_)
  refine lv_aload_n hx hb dL_law_884 rfl (lv_at hl 5 rfl) ?_
  refine lv_iload hx hb dL_law_885 (lv_at hl 1 rfl) ?_
  refine lv_iconst (v := 3) hx hb dL_law_887 (by decide) ?_
  refine lv_iadd hx hb dL_law_888 ?_
  refine lv_topi (fun z_12 ez_12 => ?_)
  refine va_sld hx hb hX hbl hbA hS (sc_in ez_12 hii (by decide : (3 : Int32) = nI 3) (by decide) ht hLn) dL_law_889 ?_
  refine lv_topi (fun z_13 ez_13 => ?_)
  refine NV_V ⟨hx, hb, hml, hown, hts⟩ (m_X10_faded l dC dI sa gm m0 bm i a z_9 z_11 z_13 _ hI.2.2.1) (cwV 3 hts gL_law_X10_faded rfl rfl rfl (by decide +kernel) ⟨Nat.le_of_ble_eq_true rfl, Nat.le_of_ble_eq_true rfl⟩) hP hD (hK.sub [12, 13, 14, 15, 16, 17, 18, 19, 20, 21, 22, 23, 24, 25, 26, 27, 28, 29, 30, 31, 32, 33, 34, 35, 36, 37, 38, 39, 40] rfl) hS hA hev rfl rfl rfl rfl hl.1 rfl (Nat.le_of_ble_eq_true rfl) dL_law_890 ⟨by show _ + 0 ≤ 601024; omega, by show _ + 0 ≤ 7293034; omega⟩ (fun r u H locs hw hP hD hS => ?_)
  obtain ⟨x0_14, rfl⟩ : ∃ z, z = u := ⟨_, rfl⟩
  have hw : (∃ z : Int32, r = some (.int z)) ∧ (True) := hw
  obtain ⟨⟨z_15, rfl⟩, hwP⟩ := hw
  have hP : va_P (dC, dI) vwCl ((va_pl L2 f2 ++ [(ou, .inl (co, 1, .inr (.inl fo2)))]) ++ mw gm m0 bm (va_up i 0 x0_14) a) _ := hP
  have hD : va_D _ ((va_pl L2 f2 ++ [(ou, .inl (co, 1, .inr (.inl fo2)))]) ++ mw gm m0 bm (va_up i 0 x0_14) a) := hD
  refine W.eq (g2 := F0 m 893 ls [.int z_15]) rfl ?_
  refine lv_istore (lv' := [(6, .int z_15), (5, .int z_7), (4, .int ii), (3, .ref ou), (2, .ref m0), (1, .ref x0), (0, .ref b)]) hx hb dL_law_893 hl (by decide) rfl (fun ls hl => ?_)
  refine lv_goto (tgt := 938) hx hb dL_law_895 (by decide) ?_
  exact W.widen (by omega) (by omega) (hk L2 f2 fo2 (va_up i 0 x0_14) a _ _ _ ⟨hT2, ⟨hRF2, tt, hCN2, hag⟩, hI.2.2.1, hI.2.2.2.1, hI.2.2.2.2.1, hI.2.2.2.2.2⟩ hP hD hS (lv_sub hl [2, 3, 4, 5, 6] rfl))

set_option maxHeartbeats 4000000 in
set_option maxRecDepth 100000 in
theorem lo_matching {p : Program} {l : Launch} {e : Env} {s : State} {m : MethodId} {below : List Frame} {meth : Method} {c : Code} {b Ln : Nat} {xs : Nat → Int32} (hlt : l.stackTraces = false) (C0 : lw_At p s m meth c b Ln xs) (hLn : Ln ≤ 3072) {dC : Nat → ClassId} {dI : Nat → Nat → Nat} {sa : Nat → Nat} (hev : ev sa (fun q : Nat => s.heap.size ≤ q) s s.heap) {x0 rdr tok tp ka sta vaa m0 ou : Nat} {co : ClassId} {g gm bm : Nat → Nat} (hK : va_K (dC, dI) vwCl (tyG g ++ [(co, .long)] ++ tyM gm) s) {L : List Nat} {f : Nat → va_E} {fo : Nat → Int64} {i : Nat → Int32} {a : Nat → Nat → Int32} {H : Heap} {locs : List Loc} {ls : Array Slot} {cells slots t : Nat} {ii : Int32} (hI : LI g (x0, rdr, tok, tp, ka, sta, vaa) L f i a) (hP : va_P (dC, dI) vwCl ((va_pl L f ++ [(ou, .inl (co, 1, .inr (.inl fo)))]) ++ mw gm m0 bm i a) H) (hD : va_D (fun q : Nat => s.heap.size ≤ q) ((va_pl L f ++ [(ou, .inl (co, 1, .inr (.inl fo)))]) ++ mw gm m0 bm i a)) (hS : va_S (fun q : Nat => s.heap.size ≤ q) s.heap H locs) (hl : lv_has ls 7 [(4, .int ii), (3, .ref ou), (2, .ref m0), (1, .ref x0), (0, .ref b)]) (hii : ii = nI (6 * t)) (ht : 6 * t + 6 ≤ Ln) (hc : cells + 303 ≤ 601024) (hs : slots + 2415 ≤ 7293034) (hk : ∀ (L2 : List Nat) (f2 : Nat → va_E) (fo2 : Nat → Int64) (i2 : Nat → Int32) (a2 : Nat → Nat → Int32) (H : Heap) (locs : List Loc) (ls : Array Slot), LI g (x0, rdr, tok, tp, ka, sta, vaa) L2 f2 i2 a2 → va_P (dC, dI) vwCl ((va_pl L2 f2 ++ [(ou, .inl (co, 1, .inr (.inl fo2)))]) ++ mw gm m0 bm i2 a2) H → va_D (fun q : Nat => s.heap.size ≤ q) ((va_pl L2 f2 ++ [(ou, .inl (co, 1, .inr (.inl fo2)))]) ++ mw gm m0 bm i2 a2) → va_S (fun q : Nat => s.heap.size ≤ q) s.heap H locs → lv_has ls 7 [(4, .int ii), (3, .ref ou), (2, .ref m0), (1, .ref x0), (0, .ref b)] → W p l e room_1 s m #[Value.ref b] below meth c H locs (cells + 303) (slots + 2415) (lw_Z below #[Value.ref b] s) (F0 m 938 ls [])) : W p l e room_1 s m #[Value.ref b] below meth c H locs cells slots (lw_Z below #[Value.ref b] s) (F0 m 898 ls []) := by
  obtain ⟨hx, hb, hr, hml, hown, hts, hX, hbl, hlocks, hgv⟩ := id C0
  have hown : s.vm.findClass RL = some m.cls := hown
  have hA : ∀ q : Nat, s.heap.size ≤ q → (fun q : Nat => s.heap.size ≤ q) q := fun _ h => h
  have hbA : ¬ (fun q : Nat => s.heap.size ≤ q) b := Nat.not_le.mpr hbl
  refine lv_aload_n hx hb dL_law_898 rfl (lv_at hl 3 rfl) ?_
  refine lv_aload_n hx hb dL_law_899 rfl (lv_at hl 4 rfl) ?_
  refine lv_iload hx hb dL_law_900 (lv_at hl 0 rfl) ?_
  refine lv_iconst (v := 1) hx hb dL_law_902 (by decide) ?_
  refine lv_iadd hx hb dL_law_903 ?_
  refine lv_topi (fun z_1 ez_1 => ?_)
  refine va_sld hx hb hX hbl hbA hS (sc_in ez_1 hii (by decide : (1 : Int32) = nI 1) (by decide) ht hLn) dL_law_904 ?_
  refine lv_topi (fun z_2 ez_2 => ?_)
  refine lv_aload_n hx hb dL_law_905 rfl (lv_at hl 4 rfl) ?_
  refine lv_iload hx hb dL_law_906 (lv_at hl 0 rfl) ?_
  refine lv_iconst (v := 2) hx hb dL_law_908 (by decide) ?_
  refine lv_iadd hx hb dL_law_909 ?_
  refine lv_topi (fun z_3 ez_3 => ?_)
  refine va_sld hx hb hX hbl hbA hS (sc_in ez_3 hii (by decide : (2 : Int32) = nI 2) (by decide) ht hLn) dL_law_910 ?_
  refine lv_topi (fun z_4 ez_4 => ?_)
  refine lv_aload_n hx hb dL_law_911 rfl (lv_at hl 1 rfl) ?_
  obtain ⟨tt, hCN, hag⟩ := hI.2.1.2
  refine NW_S (hh := [(0, 10, 13, 13), (0, 10, 17, 18)]) ⟨hx, hb, hml, hown, hts⟩ (w_matching l dC dI sa hlt g _ _ x0 rdr tok tp ka sta vaa ou co _ z_2 z_4 (i 20) (i 23) (i 24) tt _ hI.1 hI.2.1.1 hCN hI.2.2.2.1.2) (vx_cwSW 4 hts gL_law_L_matching rfl rfl rfl (by decide +kernel) ⟨Nat.le_of_ble_eq_true rfl, Nat.le_of_ble_eq_true rfl⟩) hP hD (hK.sub [0, 1, 2, 3, 4, 5, 6, 7, 8, 9, 10, 11] rfl) hS hA hev rfl hl.1 rfl (Nat.le_of_ble_eq_true rfl) dL_law_912 ⟨by show _ + 2 ≤ 601024; omega, by show _ + 12 ≤ 7293034; omega⟩ (fun r u H locs hw hP hD hS => ?_)
  obtain ⟨⟨L2, f2⟩, fo2⟩ := u
  have hw : (∃ z : Int32, r = some (.int z)) ∧ WT g L2 f2 ∧ Ext L f L2 f2 ∧ RF (x0, rdr, tok, tp, ka, sta, vaa) f2 ∧ CN (x0, rdr, tok, tp, ka, sta, vaa) f2 (i 20) (i 23) (i 24) tt := hw
  obtain ⟨⟨z_5, rfl⟩, hW2, hE2, hRF2, hCN2⟩ := hw
  have hT2 := hI.1.go hE2 hW2
  have hP : va_P (dC, dI) vwCl ((va_pl L2 f2 ++ [(ou, .inl (co, 1, .inr (.inl fo2)))]) ++ mw gm m0 bm i a) _ := hP
  have hD : va_D _ ((va_pl L2 f2 ++ [(ou, .inl (co, 1, .inr (.inl fo2)))]) ++ mw gm m0 bm i a) := hD
  refine W.eq (g2 := F0 m 915 ls [.int z_5]) rfl ?_
  refine lv_istore (lv' := [(5, .int z_5), (4, .int ii), (3, .ref ou), (2, .ref m0), (1, .ref x0), (0, .ref b)]) hx hb dL_law_915 hl (by decide) rfl (fun ls hl => ?_)
  refine lv_aload_n hx hb dL_law_917 rfl (lv_at hl 3 rfl) ?_
  refine lv_aload_n hx hb dL_law_918 rfl (lv_at hl 5 rfl) ?_
  refine lv_iload hx hb dL_law_919 (lv_at hl 1 rfl) ?_
  refine lv_iconst (v := 1) hx hb dL_law_921 (by decide) ?_
  refine lv_iadd hx hb dL_law_922 ?_
  refine lv_topi (fun z_6 ez_6 => ?_)
  refine va_sld hx hb hX hbl hbA hS (sc_in ez_6 hii (by decide : (1 : Int32) = nI 1) (by decide) ht hLn) dL_law_923 ?_
  refine lv_topi (fun z_7 ez_7 => ?_)
  refine lv_aload_n hx hb dL_law_924 rfl (lv_at hl 5 rfl) ?_
  refine lv_iload hx hb dL_law_925 (lv_at hl 1 rfl) ?_
  refine lv_iconst (v := 2) hx hb dL_law_927 (by decide) ?_
  refine lv_iadd hx hb dL_law_928 ?_
  refine lv_topi (fun z_8 ez_8 => ?_)
  refine va_sld hx hb hX hbl hbA hS (sc_in ez_8 hii (by decide : (2 : Int32) = nI 2) (by decide) ht hLn) dL_law_929 ?_
  refine lv_topi (fun z_9 ez_9 => ?_)
  refine NV_V ⟨hx, hb, hml, hown, hts⟩ (m_X10_matching l dC dI sa gm m0 bm i a z_7 z_9 _ hI.2.2.1) (cwV 2 hts gL_law_X10_matching rfl rfl rfl (by decide +kernel) ⟨Nat.le_of_ble_eq_true rfl, Nat.le_of_ble_eq_true rfl⟩) hP hD (hK.sub [12, 13, 14, 15, 16, 17, 18, 19, 20, 21, 22, 23, 24, 25, 26, 27, 28, 29, 30, 31, 32, 33, 34, 35, 36, 37, 38, 39, 40] rfl) hS hA hev rfl rfl rfl rfl hl.1 rfl (Nat.le_of_ble_eq_true rfl) dL_law_930 ⟨by show _ + 0 ≤ 601024; omega, by show _ + 0 ≤ 7293034; omega⟩ (fun r u H locs hw hP hD hS => ?_)
  obtain ⟨x0_10, rfl⟩ : ∃ z, z = u := ⟨_, rfl⟩
  have hw : (∃ z : Int32, r = some (.int z)) ∧ (True) := hw
  obtain ⟨⟨z_11, rfl⟩, hwP⟩ := hw
  have hP : va_P (dC, dI) vwCl ((va_pl L2 f2 ++ [(ou, .inl (co, 1, .inr (.inl fo2)))]) ++ mw gm m0 bm (va_up i 0 x0_10) a) _ := hP
  have hD : va_D _ ((va_pl L2 f2 ++ [(ou, .inl (co, 1, .inr (.inl fo2)))]) ++ mw gm m0 bm (va_up i 0 x0_10) a) := hD
  refine W.eq (g2 := F0 m 933 ls [.int z_11]) rfl ?_
  refine lv_istore (lv' := [(6, .int z_11), (5, .int z_5), (4, .int ii), (3, .ref ou), (2, .ref m0), (1, .ref x0), (0, .ref b)]) hx hb dL_law_933 hl (by decide) rfl (fun ls hl => ?_)
  refine lv_goto (tgt := 938) hx hb dL_law_935 (by decide) ?_
  exact W.widen (by omega) (by omega) (hk L2 f2 fo2 (va_up i 0 x0_10) a _ _ _ ⟨hT2, ⟨hRF2, tt, hCN2, hag⟩, hI.2.2.1, hI.2.2.2.1, hI.2.2.2.2.1, hI.2.2.2.2.2⟩ hP hD hS (lv_sub hl [2, 3, 4, 5, 6] rfl))

set_option maxHeartbeats 4000000 in
set_option maxRecDepth 100000 in
theorem law_turn {p : Program} {l : Launch} {e : Env} {s : State} {m : MethodId} {below : List Frame} {meth : Method} {c : Code} {b Ln : Nat} {xs : Nat → Int32} (hlt : l.stackTraces = false) (C0 : lw_At p s m meth c b Ln xs) (hLn : Ln ≤ 3072) {dC : Nat → ClassId} {dI : Nat → Nat → Nat} {sa : Nat → Nat} (hev : ev sa (fun q : Nat => s.heap.size ≤ q) s s.heap) {x0 rdr tok tp ka sta vaa m0 ou : Nat} {co : ClassId} {g gm bm : Nat → Nat} (hK : va_K (dC, dI) vwCl (tyG g ++ [(co, .long)] ++ tyM gm) s) {L : List Nat} {f : Nat → va_E} {fo : Nat → Int64} {i : Nat → Int32} {a : Nat → Nat → Int32} {H : Heap} {locs : List Loc} {ls : Array Slot} {cells slots t : Nat} {ii : Int32} (hI : LI g (x0, rdr, tok, tp, ka, sta, vaa) L f i a) (hP : va_P (dC, dI) vwCl ((va_pl L f ++ [(ou, .inl (co, 1, .inr (.inl fo)))]) ++ mw gm m0 bm i a) H) (hD : va_D (fun q : Nat => s.heap.size ≤ q) ((va_pl L f ++ [(ou, .inl (co, 1, .inr (.inl fo)))]) ++ mw gm m0 bm i a)) (hS : va_S (fun q : Nat => s.heap.size ≤ q) s.heap H locs) (hl : lv_has ls 7 [(4, .int ii), (3, .ref ou), (2, .ref m0), (1, .ref x0), (0, .ref b)]) (hii : ii = nI (6 * t)) (ht0 : t ≤ 600) (hc0 : cells ≤ 601024) (hs0 : slots ≤ 7293034) (hcs : 6 * t + 6 ≤ Ln → cells + 303 ≤ 601024 ∧ slots + 2415 ≤ 7293034) (hk : 6 * t + 6 ≤ Ln → ∀ (L2 : List Nat) (f2 : Nat → va_E) (fo2 : Nat → Int64) (i2 : Nat → Int32) (a2 : Nat → Nat → Int32) (H : Heap) (locs : List Loc) (ls : Array Slot), LI g (x0, rdr, tok, tp, ka, sta, vaa) L2 f2 i2 a2 → va_P (dC, dI) vwCl ((va_pl L2 f2 ++ [(ou, .inl (co, 1, .inr (.inl fo2)))]) ++ mw gm m0 bm i2 a2) H → va_D (fun q : Nat => s.heap.size ≤ q) ((va_pl L2 f2 ++ [(ou, .inl (co, 1, .inr (.inl fo2)))]) ++ mw gm m0 bm i2 a2) → va_S (fun q : Nat => s.heap.size ≤ q) s.heap H locs → lv_has ls 7 [(4, .int ii), (3, .ref ou), (2, .ref m0), (1, .ref x0), (0, .ref b)] → W p l e room_1 s m #[Value.ref b] below meth c H locs (cells + 303) (slots + 2415) (lw_Z below #[Value.ref b] s) (F0 m 938 ls [])) : W p l e room_1 s m #[Value.ref b] below meth c H locs cells slots (lw_Z below #[Value.ref b] s) (F0 m 23 ls []) := by
  obtain ⟨hx, hb, hr, hml, hown, hts, hX, hbl, hlocks, hgv⟩ := id C0
  have hown : s.vm.findClass RL = some m.cls := hown
  have hA : ∀ q : Nat, s.heap.size ≤ q → (fun q : Nat => s.heap.size ≤ q) q := fun _ h => h
  have hbA : ¬ (fun q : Nat => s.heap.size ≤ q) b := Nat.not_le.mpr hbl
  refine lv_iload hx hb dL_law_23 (lv_at hl 0 rfl) ?_
  refine lv_aload_n hx hb dL_law_25 rfl (lv_at hl 4 rfl) ?_
  refine va_slen hx hb hX hbl hbA hS dL_law_26 ?_
  refine lv_topi (fun z_1 ez_1 => ?_)
  refine lv_bipush (v := 6) hx hb dL_law_27 (by decide) ?_
  refine lv_isub hx hb dL_law_29 ?_
  refine lv_topi (fun z_2 ez_2 => ?_)
  refine lv_icmp_gt (tgt := 944) hx hb dL_law_30 (by decide) (fun c_3 => ?_) (fun c_3 => ?_)
  · refine lv_iconst (v := 1) hx hb dL_law_944 (by decide) ?_
    refine va_forget (fun q hq => hS.2.2 q hq) ?_
    refine W.widen (k := 601024) (n := 7293034) (by omega) (by omega) ?_
    exact lw_ret hx hb hr hlocks dL_law_945
  · have ht := sc_go hii ez_1 ez_2 hLn ht0 c_3
    have hk9 := hk ht
    obtain ⟨hc1, hs1⟩ := hcs ht
    have hc : cells + 303 ≤ 601024 := by omega
    have hs : slots + 2415 ≤ 7293034 := by omega
    refine lv_aload_n hx hb dL_law_33 rfl (lv_at hl 4 rfl) ?_
    refine lv_iload hx hb dL_law_34 (lv_at hl 0 rfl) ?_
    refine va_sld hx hb hX hbl hbA hS (sc_in0 hii ht hLn) dL_law_36 ?_
    refine lv_topi (fun z_4 ez_4 => ?_)
    refine lv_bipush (v := 31) hx hb dL_law_37 (by decide) ?_
    refine lv_iand hx hb dL_law_39 ?_
    refine lv_topi (fun z_5 ez_5 => ?_)
    by_cases c_6 : z_5 = 0
    · refine lv_tableIn (tgt := 132) hx hb dL_law_40 (by rw [c_6]; decide) (by rw [c_6]; decide) (by rw [c_6]; rfl) (by decide) ?_
      exact lo_charge hlt C0 hLn hev hK hI hP hD hS (lv_sub hl [0, 1, 2, 3, 4] rfl) hii ht hc hs hk9
    by_cases c_7 : z_5 = 1
    · refine lv_tableIn (tgt := 172) hx hb dL_law_40 (by rw [c_7]; decide) (by rw [c_7]; decide) (by rw [c_7]; rfl) (by decide) ?_
      exact lo_feed hlt C0 hLn hev hK hI hP hD hS (lv_sub hl [0, 1, 2, 3, 4] rfl) hii ht hc hs hk9
    by_cases c_8 : z_5 = 2
    · refine lv_tableIn (tgt := 212) hx hb dL_law_40 (by rw [c_8]; decide) (by rw [c_8]; decide) (by rw [c_8]; rfl) (by decide) ?_
      exact lo_lime hlt C0 hLn hev hK hI hP hD hS (lv_sub hl [0, 1, 2, 3, 4] rfl) hii ht hc hs hk9
    by_cases c_9 : z_5 = 3
    · refine lv_tableIn (tgt := 240) hx hb dL_law_40 (by rw [c_9]; decide) (by rw [c_9]; decide) (by rw [c_9]; rfl) (by decide) ?_
      exact lo_hours hlt C0 hLn hev hK hI hP hD hS (lv_sub hl [0, 1, 2, 3, 4] rfl) hii ht hc hs hk9
    by_cases c_10 : z_5 = 4
    · refine lv_tableIn (tgt := 268) hx hb dL_law_40 (by rw [c_10]; decide) (by rw [c_10]; decide) (by rw [c_10]; rfl) (by decide) ?_
      exact lo_cloth hlt C0 hLn hev hK hI hP hD hS (lv_sub hl [0, 1, 2, 3, 4] rfl) hii ht hc hs hk9
    by_cases c_11 : z_5 = 5
    · refine lv_tableIn (tgt := 293) hx hb dL_law_40 (by rw [c_11]; decide) (by rw [c_11]; decide) (by rw [c_11]; rfl) (by decide) ?_
      exact lo_dip hlt C0 hLn hev hK hI hP hD hS (lv_sub hl [0, 1, 2, 3, 4] rfl) hii ht hc hs hk9
    by_cases c_12 : z_5 = 6
    · refine lv_tableIn (tgt := 345) hx hb dL_law_40 (by rw [c_12]; decide) (by rw [c_12]; decide) (by rw [c_12]; rfl) (by decide) ?_
      exact lo_treat hlt C0 hLn hev hK hI hP hD hS (lv_sub hl [0, 1, 2, 3, 4] rfl) hii ht hc hs hk9
    by_cases c_13 : z_5 = 7
    · refine lv_tableIn (tgt := 385) hx hb dL_law_40 (by rw [c_13]; decide) (by rw [c_13]; decide) (by rw [c_13]; rfl) (by decide) ?_
      exact lo_put hlt C0 hLn hev hK hI hP hD hS (lv_sub hl [0, 1, 2, 3, 4] rfl) hii ht hc hs hk9
    by_cases c_14 : z_5 = 8
    · refine lv_tableIn (tgt := 458) hx hb dL_law_40 (by rw [c_14]; decide) (by rw [c_14]; decide) (by rw [c_14]; rfl) (by decide) ?_
      exact lo_recipe hlt C0 hLn hev hK hI hP hD hS (lv_sub hl [0, 1, 2, 3, 4] rfl) hii ht hc hs hk9
    by_cases c_15 : z_5 = 9
    · refine lv_tableIn (tgt := 526) hx hb dL_law_40 (by rw [c_15]; decide) (by rw [c_15]; decide) (by rw [c_15]; rfl) (by decide) ?_
      exact lo_fault hlt C0 hLn hev hK hI hP hD hS (lv_sub hl [0, 1, 2, 3, 4] rfl) hii ht hc hs hk9
    by_cases c_16 : z_5 = 10
    · refine lv_tableIn (tgt := 554) hx hb dL_law_40 (by rw [c_16]; decide) (by rw [c_16]; decide) (by rw [c_16]; rfl) (by decide) ?_
      exact lo_run hlt C0 hLn hev hK hI hP hD hS (lv_sub hl [0, 1, 2, 3, 4] rfl) hii ht hc hs hk9
    by_cases c_17 : z_5 = 11
    · refine lv_tableIn (tgt := 606) hx hb dL_law_40 (by rw [c_17]; decide) (by rw [c_17]; decide) (by rw [c_17]; rfl) (by decide) ?_
      exact lo_ran hlt C0 hLn hev hK hI hP hD hS (lv_sub hl [0, 1, 2, 3, 4] rfl) hii ht hc hs hk9
    by_cases c_18 : z_5 = 12
    · refine lv_tableIn (tgt := 634) hx hb dL_law_40 (by rw [c_18]; decide) (by rw [c_18]; decide) (by rw [c_18]; rfl) (by decide) ?_
      exact lo_plan hlt C0 hLn hev hK hI hP hD hS (lv_sub hl [0, 1, 2, 3, 4] rfl) hii ht hc hs hk9
    by_cases c_19 : z_5 = 13
    · refine lv_tableIn (tgt := 698) hx hb dL_law_40 (by rw [c_19]; decide) (by rw [c_19]; decide) (by rw [c_19]; rfl) (by decide) ?_
      exact lo_planned hlt C0 hLn hev hK hI hP hD hS (lv_sub hl [0, 1, 2, 3, 4] rfl) hii ht hc hs hk9
    by_cases c_20 : z_5 = 14
    · refine lv_tableIn (tgt := 738) hx hb dL_law_40 (by rw [c_20]; decide) (by rw [c_20]; decide) (by rw [c_20]; rfl) (by decide) ?_
      exact lo_vat hlt C0 hLn hev hK hI hP hD hS (lv_sub hl [0, 1, 2, 3, 4] rfl) hii ht hc hs hk9
    by_cases c_21 : z_5 = 15
    · refine lv_tableIn (tgt := 778) hx hb dL_law_40 (by rw [c_21]; decide) (by rw [c_21]; decide) (by rw [c_21]; rfl) (by decide) ?_
      exact lo_about hlt C0 hLn hev hK hI hP hD hS (lv_sub hl [0, 1, 2, 3, 4] rfl) hii ht hc hs hk9
    by_cases c_22 : z_5 = 16
    · refine lv_tableIn (tgt := 818) hx hb dL_law_40 (by rw [c_22]; decide) (by rw [c_22]; decide) (by rw [c_22]; rfl) (by decide) ?_
      exact lo_count hlt C0 hLn hev hK hI hP hD hS (lv_sub hl [0, 1, 2, 3, 4] rfl) hii ht hc hs hk9
    by_cases c_23 : z_5 = 17
    · refine lv_tableIn (tgt := 846) hx hb dL_law_40 (by rw [c_23]; decide) (by rw [c_23]; decide) (by rw [c_23]; rfl) (by decide) ?_
      exact lo_faded hlt C0 hLn hev hK hI hP hD hS (lv_sub hl [0, 1, 2, 3, 4] rfl) hii ht hc hs hk9
    by_cases c_24 : z_5 = 18
    · refine lv_tableIn (tgt := 898) hx hb dL_law_40 (by rw [c_24]; decide) (by rw [c_24]; decide) (by rw [c_24]; rfl) (by decide) ?_
      exact lo_matching hlt C0 hLn hev hK hI hP hD hS (lv_sub hl [0, 1, 2, 3, 4] rfl) hii ht hc hs hk9
    refine lv_tableOut (tgt := 938) hx hb dL_law_40 (tab_out19 c_6 c_7 c_8 c_9 c_10 c_11 c_12 c_13 c_14 c_15 c_16 c_17 c_18 c_19 c_20 c_21 c_22 c_23 c_24) (by decide) ?_
    exact W.widen (by omega) (by omega) (hk9 _ _ _ _ _ _ _ _ hI hP hD hS (lv_sub hl [0, 1, 2, 3, 4] rfl))

set_option maxHeartbeats 4000000 in
set_option maxRecDepth 100000 in
theorem law_loop {p : Program} {l : Launch} {e : Env} {s : State} {m : MethodId} {below : List Frame} {meth : Method} {c : Code} {b Ln : Nat} {xs : Nat → Int32} (hlt : l.stackTraces = false) (C0 : lw_At p s m meth c b Ln xs) (hLn : Ln ≤ 3072) {dC : Nat → ClassId} {dI : Nat → Nat → Nat} {sa : Nat → Nat} (hev : ev sa (fun q : Nat => s.heap.size ≤ q) s s.heap) {x0 rdr tok tp ka sta vaa m0 ou : Nat} {co : ClassId} {g gm bm : Nat → Nat} (hK : va_K (dC, dI) vwCl (tyG g ++ [(co, .long)] ++ tyM gm) s) : ∀ (n t : Nat) (L : List Nat) (f : Nat → va_E) (fo : Nat → Int64) (i : Nat → Int32) (a : Nat → Nat → Int32) (H : Heap) (locs : List Loc) (ls : Array Slot), Ln < 6 * (t + n) + 6 → t ≤ 512 → LI g (x0, rdr, tok, tp, ka, sta, vaa) L f i a → va_P (dC, dI) vwCl ((va_pl L f ++ [(ou, .inl (co, 1, .inr (.inl fo)))]) ++ mw gm m0 bm i a) H → va_D (fun q : Nat => s.heap.size ≤ q) ((va_pl L f ++ [(ou, .inl (co, 1, .inr (.inl fo)))]) ++ mw gm m0 bm i a) → va_S (fun q : Nat => s.heap.size ≤ q) s.heap H locs → lv_has ls 7 [(4, .int (nI (6 * t))), (3, .ref ou), (2, .ref m0), (1, .ref x0), (0, .ref b)] → W p l e room_1 s m #[Value.ref b] below meth c H locs (200 + 303 * t) (40000 + 2415 * t) (lw_Z below #[Value.ref b] s) (F0 m 23 ls []) := by
  obtain ⟨hx, hb, hr, hml, hown, hts, hX, hbl, hlocks, hgv⟩ := id C0
  have hown : s.vm.findClass RL = some m.cls := hown
  have hA : ∀ q : Nat, s.heap.size ≤ q → (fun q : Nat => s.heap.size ≤ q) q := fun _ h => h
  have hbA : ¬ (fun q : Nat => s.heap.size ≤ q) b := Nat.not_le.mpr hbl
  intro n
  induction n with
  | zero =>
    intro t L f fo i a H locs ls hn ht5 hI hP hD hS hl
    exact law_turn hlt C0 hLn hev hK hI hP hD hS hl rfl (by omega) (by omega) (by omega) (fun h => absurd h (by omega)) (fun h => absurd h (by omega))
  | succ n ih =>
    intro t L f fo i a H locs ls hn ht5 hI hP hD hS hl
    refine law_turn hlt C0 hLn hev hK hI hP hD hS hl rfl (by omega) (by omega) (by omega) (fun h => ⟨by omega, by omega⟩) ?_
    intro ht L2 f2 fo2 i2 a2 H locs ls hI hP hD hS hl
    refine lv_iinc (v := nI (6 * (t + 1))) (lv' := [(4, .int (nI (6 * (t + 1)))), (3, .ref ou), (2, .ref m0), (1, .ref x0), (0, .ref b)]) hx hb dL_law_938 hl (k := 0) rfl (by show nI (6 * t) + nI 6 = nI (6 * (t + 1)); rw [nI_add]; exact congrArg nI (by omega)) (by decide) rfl (fun ls hl => ?_)
    refine lv_goto (tgt := 23) hx hb dL_law_941 (by decide) ?_
    exact W.widen (by omega) (by omega) (ih (t + 1) L2 f2 fo2 i2 a2 H locs ls (by omega) (by omega) hI hP hD hS hl)
