/-! the planner's memory -/
section PLM
variable {d q n k : Nat} {c x y z : Int32} {t t0 g f m s f1 f2 f3 f4 : Nat → Int32}
theorem ixm (hc : c = nI k) (hx : x = nI n) (e : z = c * x) : z = nI (k * n) := by
  rw [e, hc, hx]
  exact (Int32.ofNat_mul k n).symm
theorem ixa (hx : x = nI n) (hy : y = nI k) (e : z = x + y) : z = nI (n + k) := by
  rw [e, hx, hy]
  exact nI_add n k
theorem ix_c (h : z = nI n) (hn : n < 2147483648) : z.toNatClampNeg = n := by rw [h]; exact nI_clamp hn
/-- the vats below q stand in the memory of depth d -/
noncomputable def KPT (t : Nat → Int32) (d : Nat) (g f m s : Nat → Int32) (q : Nat) : Prop := ∀ v : Nat, v < q → t (26 * d + 4 * v) = g v ∧ t (26 * d + 4 * v + 1) = f v ∧ t (26 * d + 4 * v + 2) = m v ∧ t (26 * d + 4 * v + 3) = s v
noncomputable def KPO (t t0 : Nat → Int32) (d : Nat) : Prop := ∀ x : Nat, x < 26 * d ∨ 26 * d + 26 ≤ x → t x = t0 x
theorem upd_ne {f : Nat → Int32} {k j : Nat} {v : Int32} (h : ¬ j = k) : upd f k v j = f j := if_neg h
theorem KPT.o : KPT t d g f m s 0 := fun v h => absurd h (Nat.not_lt_zero _)
theorem KPT.nx {x1 x2 x3 x4 : Nat} {v1 v2 v3 v4 : Int32} (h : KPT t d g f m s q) (hq : q < 6) (e1 : f1 = upd t x1 v1) (e2 : f2 = upd f1 x2 v2) (e3 : f3 = upd f2 x3 v3) (e4 : f4 = upd f3 x4 v4) (h1 : x1 = 26 * d + 4 * q) (h2 : x2 = 26 * d + 4 * q + 1) (h3 : x3 = 26 * d + 4 * q + 2) (h4 : x4 = 26 * d + 4 * q + 3) (k1 : v1 = g q) (k2 : v2 = f q) (k3 : v3 = m q) (k4 : v4 = s q) : KPT f4 d g f m s (q + 1) ∧ (KPO t t0 d → KPO f4 t0 d) := by
  subst e1; subst e2; subst e3; subst e4; subst h1; subst h2; subst h3; subst h4; subst k1; subst k2; subst k3; subst k4
  refine ⟨fun v hv => ?_, fun ho x hx => ?_⟩
  · by_cases e : v = q
    · subst e
      refine ⟨?_, ?_, ?_, upd_at⟩
      · rw [upd_ne (by omega), upd_ne (by omega), upd_ne (by omega)]; exact upd_at
      · rw [upd_ne (by omega), upd_ne (by omega)]; exact upd_at
      · rw [upd_ne (by omega)]; exact upd_at
    · have := h v (by omega)
      rw [upd_ne (by omega), upd_ne (by omega), upd_ne (by omega), upd_ne (by omega), upd_ne (j := 26 * d + 4 * v + 1) (by omega), upd_ne (j := 26 * d + 4 * v + 1) (by omega), upd_ne (j := 26 * d + 4 * v + 1) (by omega), upd_ne (j := 26 * d + 4 * v + 1) (by omega), upd_ne (j := 26 * d + 4 * v + 2) (by omega), upd_ne (j := 26 * d + 4 * v + 2) (by omega), upd_ne (j := 26 * d + 4 * v + 2) (by omega), upd_ne (j := 26 * d + 4 * v + 2) (by omega), upd_ne (j := 26 * d + 4 * v + 3) (by omega), upd_ne (j := 26 * d + 4 * v + 3) (by omega), upd_ne (j := 26 * d + 4 * v + 3) (by omega), upd_ne (j := 26 * d + 4 * v + 3) (by omega)]
      exact this
  · rw [upd_ne (by omega), upd_ne (by omega), upd_ne (by omega), upd_ne (by omega)]
    exact ho x hx
theorem KPT.last {x1 x2 : Nat} {v1 v2 : Int32} (h : KPT t d g f m s 6) (ho : KPO t t0 d) (e1 : f1 = upd t x1 v1) (e2 : f2 = upd f1 x2 v2) (h1 : x1 = 26 * d + 24) (h2 : x2 = 26 * d + 25) : KPT f2 d g f m s 6 ∧ f2 (26 * d + 24) = v1 ∧ f2 (26 * d + 25) = v2 ∧ KPO f2 t0 d := by
  subst e1; subst e2; subst h1; subst h2
  refine ⟨fun v hv => ?_, ?_, upd_at, fun x hx => ?_⟩
  · have := h v hv
    rw [upd_ne (by omega), upd_ne (by omega), upd_ne (j := 26 * d + 4 * v + 1) (by omega), upd_ne (j := 26 * d + 4 * v + 1) (by omega), upd_ne (j := 26 * d + 4 * v + 2) (by omega), upd_ne (j := 26 * d + 4 * v + 2) (by omega), upd_ne (j := 26 * d + 4 * v + 3) (by omega), upd_ne (j := 26 * d + 4 * v + 3) (by omega)]
    exact this
  · rw [upd_ne (by omega)]; exact upd_at
  · rw [upd_ne (by omega), upd_ne (by omega)]
    exact ho x hx
/-- what is laid back is what was kept -/
theorem lay_b {A B F : Nat → Int32} (hF : ∀ v : Nat, v < 6 → F v = A v) (hB : ∀ v : Nat, ¬ v < 6 → B v = A v) : (fun v => if v < 6 then F v else B v) = A := by
  funext v
  by_cases h : v < 6
  · rw [if_pos h, hF v h]
  · rw [if_neg h, hB v h]
theorem lay_c {A B : Nat → Int32} {c : Nat} {v : Int32} (hv : v = A c) (hB : ∀ k : Nat, k ≠ c → B k = A k) : upd B c v = A := by
  funext k
  by_cases h : k = c
  · rw [show upd B c v k = v from if_pos h, hv, h]
  · rw [upd_ne h, hB k h]
theorem KPT.fr (h : KPT t d g f m s q) (hq : q ≤ 6) (hf : ∀ x : Nat, x < 26 * (d + 1) → f1 x = t x) : KPT f1 d g f m s q := fun v hv => by
  rw [hf _ (by omega), hf _ (by omega), hf _ (by omega), hf _ (by omega)]
  exact h v hv
end PLM

noncomputable abbrev rm_X10_keepsE : Room := { frames := 0, cells := 0, slots := 0, locals := 0 }
set_option maxHeartbeats 4000000 in
set_option maxRecDepth 100000 in
theorem m_X10_keepsE (l : Launch) (dC : Nat → ClassId) (dI : Nat → Nat → Nat) (sa : Nat → Nat) (g : Nat → Nat) (h0 : Nat) (b : Nat → Nat) (d : Nat) (i : Nat → Int32) (a : Nat → Nat → Int32) (de : Int32) (ck : Int32) (sz : Nat) (hd : de = nI d ∧ d ≤ 3) (hc30 : vp_in ck 30) : CT l dC dI sa yX10_keeps wsX10_keeps rm_X10_keepsE [.ref h0, .int de, .int ck] (mw g h0 b i a) (tyM g) sz (fun (r : Option Value) (y50 : (Nat → Int32)) => (r = none) ∧ (KPT y50 d (a 4) (a 5) (a 6) (a 7) 6 ∧ y50 (26 * d + 24) = ((a 14) ck.toNatClampNeg) ∧ y50 (26 * d + 25) = ((a 15) ck.toNatClampNeg) ∧ KPO y50 (a 50) d)) (fun (y50 : (Nat → Int32)) => mw g h0 b i (va_up a 50 y50)) (fun _ => []) 0 0 := by
  refine CT.start (cc := cX10_keeps) (maxL := 5) (ret := none) (by decide) rfl (Nat.le_of_ble_eq_true rfl) ?_
  intro p e s m below meth c ls hst hP hK hD hev hS hl
  obtain ⟨hx, hb, hr, hml, hts, hown, hlocks, hin⟩ := hst
  have hown : s.vm.findClass RX10 = some m.cls := hown
  have hA : ∀ q : Nat, s.heap.size ≤ q → va_A (mw g h0 b i a) s.heap.size q := fun _ h => Or.inr h
  have hl : lv_has ls 5 [(0, .ref h0), (1, .int de), (2, .int ck)] := hl
  refine lv_bipush (v := 26) hx hb dX10_keeps_0 (by decide) ?_
  refine lv_iload_n hx hb dX10_keeps_2 rfl (lv_at hl 1 rfl) ?_
  refine lv_imul hx hb dX10_keeps_3 ?_
  refine lv_topi (fun z_1 ez_1 => ?_)
  refine lv_istore_n (lv' := [(3, .int z_1), (0, .ref h0), (1, .int de), (2, .int ck)]) hx hb dX10_keeps_4 rfl hl (by decide) rfl (fun ls hl => ?_)
  refine lv_iconst (v := 0) hx hb dX10_keeps_5 (by decide) ?_
  refine lv_istore (lv' := [(4, .int 0), (3, .int z_1), (0, .ref h0), (1, .int de), (2, .int ck)]) hx hb dX10_keeps_6 hl (by decide) rfl (fun ls hl => ?_)
  have lp : ∀ (n : Nat) (ii : Int32) (l50 : Nat → Int32) (H : Heap) (locs : List Loc) (ls : Array Slot), (∃ q : Nat, ii = nI q ∧ q ≤ 6 ∧ 6 < q + n) → (∃ q : Nat, ii = nI q ∧ q ≤ 6 ∧ KPT l50 d (a 4) (a 5) (a 6) (a 7) q ∧ KPO l50 (a 50) d) → va_P (dC, dI) vwCl (mw g h0 b i (va_up a 50 l50)) H → va_D (va_A (mw g h0 b i a) s.heap.size) (mw g h0 b i (va_up a 50 l50)) → va_S (va_A (mw g h0 b i a) s.heap.size) s.heap H locs → lv_has ls 5 [(4, .int ii), (3, .int z_1), (0, .ref h0), (1, .int de), (2, .int ck)] → W p l e rm_X10_keepsE s m [.ref h0, .int de, .int ck].toArray below meth c H locs 0 0 (MQ below (Qg (fun (r : Option Value) (y50 : (Nat → Int32)) => (r = none) ∧ (KPT y50 d (a 4) (a 5) (a 6) (a 7) 6 ∧ y50 (26 * d + 24) = ((a 14) ck.toNatClampNeg) ∧ y50 (26 * d + 25) = ((a 15) ck.toNatClampNeg) ∧ KPO y50 (a 50) d)) (fun u t => QW dC dI (va_A (mw g h0 b i a) s.heap.size) ((fun (y50 : (Nat → Int32)) => mw g h0 b i (va_up a 50 y50)) u) [] t) (va_A (mw g h0 b i a) s.heap.size)) [.ref h0, .int de, .int ck].toArray s 0 0 (va_A (mw g h0 b i a) s.heap.size)) (F0 m 8 ls []) := by
    intro n
    induction n with
    | zero => intro ii l50 H locs ls hm hL hP hD hS hl; exact absurd hm (by rintro ⟨q, -, h1, h2⟩; omega)
    | succ n ih =>
      intro ii l50 H locs ls hm hL hP hD hS hl
      refine lv_iload hx hb dX10_keeps_8 (lv_at hl 0 rfl) ?_
      obtain ⟨q, hq, hq6, hk1, hk2⟩ := hL
      have hd3 := hd.2
      have hiq : ii.toNatClampNeg = q := by rw [hq]; exact nI_clamp (by omega)
      refine lv_bipush (v := 6) hx hb dX10_keeps_10 (by decide) ?_
      refine lv_icmp_ge (tgt := 99) hx hb dX10_keeps_12 (by decide) (fun c_2 => ?_) (fun c_2 => ?_)
      · have nc_2 := le_i c_2
        have lc_2 : (6 : Int32).toInt = 6 := by decide
        obtain rfl : q = 6 := up_ge hq hq6 (by decide) c_2
        refine lv_aload_n hx hb dX10_keeps_99 rfl (lv_at hl 2 rfl) ?_
        refine va_get (D := (dC, dI)) (ci := 10) (v := .ref (b 50)) (C := RX10) (T := TX10) (N := 51) hx hb hts inw_X10_keeps_10 hown hK hP 0 rfl rfl 50 (by decide) (hts (.fieldLink RX10 102 "VatHouseModel" "then" "[I") (List.mem_of_getElem? (i := 1) (by exact rfl))) (fun _ h9 => h9) rfl dX10_keeps_100 ?_
        refine lv_iload_n hx hb dX10_keeps_103 rfl (lv_at hl 1 rfl) ?_
        refine lv_bipush (v := 24) hx hb dX10_keeps_104 (by decide) ?_
        refine lv_iadd hx hb dX10_keeps_106 ?_
        refine lv_topi (fun z_3 ez_3 => ?_)
        refine lv_aload_n hx hb dX10_keeps_107 rfl (lv_at hl 2 rfl) ?_
        refine va_get (D := (dC, dI)) (ci := 10) (v := .ref (b 14)) (C := RX10) (T := TX10) (N := 51) hx hb hts inw_X10_keeps_10 hown hK hP 0 rfl rfl 14 (by decide) (hts (.fieldLink RX10 38 "VatHouseModel" "loose" "[I") (List.mem_of_getElem? (i := 6) (by exact rfl))) (fun _ h9 => h9) rfl dX10_keeps_108 ?_
        refine lv_iload_n hx hb dX10_keeps_111 rfl (lv_at hl 4 rfl) ?_
        refine va_iald hx hb hK hP 10 9 rfl rfl (by assumption) dX10_keeps_112 ?_
        refine lv_topi (fun z_4 ez_4 => ?_)
        have ez_4 : z_4 = (a 14) ck.toNatClampNeg := ez_4
        refine va_iast hx hb hK hP hD hS 29 28 rfl rfl (by rw [show z_3 = nI (26 * d + 24) from (ixa (ixm (rfl : (26 : Int32) = nI 26) hd.1 ez_1) (rfl : (24 : Int32) = nI 24) ez_3)]; exact vp_in_nI (by omega) (by decide)) dX10_keeps_113 (fun H locs hP hD hS => ?_)
        have hP : va_P (dC, dI) vwCl (mw g h0 b i (va_up a 50 (upd l50 z_3.toNatClampNeg z_4))) _ := hP
        have hD : va_D _ (mw g h0 b i (va_up a 50 (upd l50 z_3.toNatClampNeg z_4))) := hD
        obtain ⟨f_5, ef_5⟩ : ∃ z, z = (upd l50 z_3.toNatClampNeg z_4) := ⟨_, rfl⟩
        rw [← ef_5] at hP hD
        refine lv_aload_n hx hb dX10_keeps_114 rfl (lv_at hl 2 rfl) ?_
        refine va_get (D := (dC, dI)) (ci := 10) (v := .ref (b 50)) (C := RX10) (T := TX10) (N := 51) hx hb hts inw_X10_keeps_10 hown hK hP 0 rfl rfl 50 (by decide) (hts (.fieldLink RX10 102 "VatHouseModel" "then" "[I") (List.mem_of_getElem? (i := 1) (by exact rfl))) (fun _ h9 => h9) rfl dX10_keeps_115 ?_
        refine lv_iload_n hx hb dX10_keeps_118 rfl (lv_at hl 1 rfl) ?_
        refine lv_bipush (v := 25) hx hb dX10_keeps_119 (by decide) ?_
        refine lv_iadd hx hb dX10_keeps_121 ?_
        refine lv_topi (fun z_6 ez_6 => ?_)
        refine lv_aload_n hx hb dX10_keeps_122 rfl (lv_at hl 2 rfl) ?_
        refine va_get (D := (dC, dI)) (ci := 10) (v := .ref (b 15)) (C := RX10) (T := TX10) (N := 51) hx hb hts inw_X10_keeps_10 hown hK hP 0 rfl rfl 15 (by decide) (hts (.fieldLink RX10 41 "VatHouseModel" "fast" "[I") (List.mem_of_getElem? (i := 7) (by exact rfl))) (fun _ h9 => h9) rfl dX10_keeps_123 ?_
        refine lv_iload_n hx hb dX10_keeps_126 rfl (lv_at hl 4 rfl) ?_
        refine va_iald hx hb hK hP 11 10 rfl rfl (by assumption) dX10_keeps_127 ?_
        refine lv_topi (fun z_7 ez_7 => ?_)
        have ez_7 : z_7 = (a 15) ck.toNatClampNeg := ez_7
        refine va_iast hx hb hK hP hD hS 29 28 rfl rfl (by rw [show z_6 = nI (26 * d + 25) from (ixa (ixm (rfl : (26 : Int32) = nI 26) hd.1 ez_1) (rfl : (25 : Int32) = nI 25) ez_6)]; exact vp_in_nI (by omega) (by decide)) dX10_keeps_128 (fun H locs hP hD hS => ?_)
        have hP : va_P (dC, dI) vwCl (mw g h0 b i (va_up a 50 (upd f_5 z_6.toNatClampNeg z_7))) _ := hP
        have hD : va_D _ (mw g h0 b i (va_up a 50 (upd f_5 z_6.toNatClampNeg z_7))) := hD
        obtain ⟨f_8, ef_8⟩ : ∃ z, z = (upd f_5 z_6.toNatClampNeg z_7) := ⟨_, rfl⟩
        rw [← ef_8] at hP hD
        exact M_v hx hb hr hlocks (f_8) hP hD hK hS ⟨rfl, (by obtain ⟨g1, g2, g3, g4⟩ := KPT.last (t0 := a 50) hk1 hk2 ef_5 ef_8 (ix_c (show z_3 = nI (26 * d + 24) from (ixa (ixm (rfl : (26 : Int32) = nI 26) hd.1 ez_1) (rfl : (24 : Int32) = nI 24) ez_3)) (by omega)) (ix_c (show z_6 = nI (26 * d + 25) from (ixa (ixm (rfl : (26 : Int32) = nI 26) hd.1 ez_1) (rfl : (25 : Int32) = nI 25) ez_6)) (by omega)); exact ⟨g1, g2.trans ez_4, g3.trans ez_7, g4⟩)⟩ (Nat.le_of_ble_eq_true rfl) (Nat.le_of_ble_eq_true rfl) dX10_keeps_129
      · have nc_2 := nle_i c_2
        have lc_2 : (6 : Int32).toInt = 6 := by decide
        have hqlt : q < 6 := up_lt (by decide) hq hq6 (by decide) c_2
        refine lv_aload_n hx hb dX10_keeps_15 rfl (lv_at hl 2 rfl) ?_
        refine va_get (D := (dC, dI)) (ci := 10) (v := .ref (b 50)) (C := RX10) (T := TX10) (N := 51) hx hb hts inw_X10_keeps_10 hown hK hP 0 rfl rfl 50 (by decide) (hts (.fieldLink RX10 102 "VatHouseModel" "then" "[I") (List.mem_of_getElem? (i := 1) (by exact rfl))) (fun _ h9 => h9) rfl dX10_keeps_16 ?_
        refine lv_iload_n hx hb dX10_keeps_19 rfl (lv_at hl 1 rfl) ?_
        refine lv_iconst (v := 4) hx hb dX10_keeps_20 (by decide) ?_
        refine lv_iload hx hb dX10_keeps_21 (lv_at hl 0 rfl) ?_
        refine lv_imul hx hb dX10_keeps_23 ?_
        refine lv_topi (fun z_9 ez_9 => ?_)
        refine lv_iadd hx hb dX10_keeps_24 ?_
        refine lv_topi (fun z_10 ez_10 => ?_)
        refine lv_aload_n hx hb dX10_keeps_25 rfl (lv_at hl 2 rfl) ?_
        refine va_get (D := (dC, dI)) (ci := 10) (v := .ref (b 4)) (C := RX10) (T := TX10) (N := 51) hx hb hts inw_X10_keeps_10 hown hK hP 0 rfl rfl 4 (by decide) (hts (.fieldLink RX10 7 "VatHouseModel" "grains" "[I") (List.mem_of_getElem? (i := 2) (by exact rfl))) (fun _ h9 => h9) rfl dX10_keeps_26 ?_
        refine lv_iload hx hb dX10_keeps_29 (lv_at hl 0 rfl) ?_
        refine va_iald hx hb hK hP 1 0 rfl rfl (by rw [hq]; exact vp_in_nI hqlt (by decide)) dX10_keeps_31 ?_
        refine lv_topi (fun z_11 ez_11 => ?_)
        have ez_11 : z_11 = (a 4) ii.toNatClampNeg := ez_11
        refine va_iast hx hb hK hP hD hS 29 28 rfl rfl (by rw [show z_10 = nI (26 * d + 4 * q) from (ixa (ixm (rfl : (26 : Int32) = nI 26) hd.1 ez_1) (ixm (rfl : (4 : Int32) = nI 4) hq ez_9) ez_10)]; exact vp_in_nI (by omega) (by decide)) dX10_keeps_32 (fun H locs hP hD hS => ?_)
        have hP : va_P (dC, dI) vwCl (mw g h0 b i (va_up a 50 (upd l50 z_10.toNatClampNeg z_11))) _ := hP
        have hD : va_D _ (mw g h0 b i (va_up a 50 (upd l50 z_10.toNatClampNeg z_11))) := hD
        obtain ⟨f_12, ef_12⟩ : ∃ z, z = (upd l50 z_10.toNatClampNeg z_11) := ⟨_, rfl⟩
        rw [← ef_12] at hP hD
        refine lv_aload_n hx hb dX10_keeps_33 rfl (lv_at hl 2 rfl) ?_
        refine va_get (D := (dC, dI)) (ci := 10) (v := .ref (b 50)) (C := RX10) (T := TX10) (N := 51) hx hb hts inw_X10_keeps_10 hown hK hP 0 rfl rfl 50 (by decide) (hts (.fieldLink RX10 102 "VatHouseModel" "then" "[I") (List.mem_of_getElem? (i := 1) (by exact rfl))) (fun _ h9 => h9) rfl dX10_keeps_34 ?_
        refine lv_iload_n hx hb dX10_keeps_37 rfl (lv_at hl 1 rfl) ?_
        refine lv_iconst (v := 4) hx hb dX10_keeps_38 (by decide) ?_
        refine lv_iload hx hb dX10_keeps_39 (lv_at hl 0 rfl) ?_
        refine lv_imul hx hb dX10_keeps_41 ?_
        refine lv_topi (fun z_13 ez_13 => ?_)
        refine lv_iadd hx hb dX10_keeps_42 ?_
        refine lv_topi (fun z_14 ez_14 => ?_)
        refine lv_iconst (v := 1) hx hb dX10_keeps_43 (by decide) ?_
        refine lv_iadd hx hb dX10_keeps_44 ?_
        refine lv_topi (fun z_15 ez_15 => ?_)
        refine lv_aload_n hx hb dX10_keeps_45 rfl (lv_at hl 2 rfl) ?_
        refine va_get (D := (dC, dI)) (ci := 10) (v := .ref (b 5)) (C := RX10) (T := TX10) (N := 51) hx hb hts inw_X10_keeps_10 hown hK hP 0 rfl rfl 5 (by decide) (hts (.fieldLink RX10 13 "VatHouseModel" "food" "[I") (List.mem_of_getElem? (i := 3) (by exact rfl))) (fun _ h9 => h9) rfl dX10_keeps_46 ?_
        refine lv_iload hx hb dX10_keeps_49 (lv_at hl 0 rfl) ?_
        refine va_iald hx hb hK hP 2 1 rfl rfl (by rw [hq]; exact vp_in_nI hqlt (by decide)) dX10_keeps_51 ?_
        refine lv_topi (fun z_16 ez_16 => ?_)
        have ez_16 : z_16 = (a 5) ii.toNatClampNeg := ez_16
        refine va_iast hx hb hK hP hD hS 29 28 rfl rfl (by rw [show z_15 = nI (26 * d + 4 * q + 1) from (ixa (ixa (ixm (rfl : (26 : Int32) = nI 26) hd.1 ez_1) (ixm (rfl : (4 : Int32) = nI 4) hq ez_13) ez_14) (rfl : (1 : Int32) = nI 1) ez_15)]; exact vp_in_nI (by omega) (by decide)) dX10_keeps_52 (fun H locs hP hD hS => ?_)
        have hP : va_P (dC, dI) vwCl (mw g h0 b i (va_up a 50 (upd f_12 z_15.toNatClampNeg z_16))) _ := hP
        have hD : va_D _ (mw g h0 b i (va_up a 50 (upd f_12 z_15.toNatClampNeg z_16))) := hD
        obtain ⟨f_17, ef_17⟩ : ∃ z, z = (upd f_12 z_15.toNatClampNeg z_16) := ⟨_, rfl⟩
        rw [← ef_17] at hP hD
        refine lv_aload_n hx hb dX10_keeps_53 rfl (lv_at hl 2 rfl) ?_
        refine va_get (D := (dC, dI)) (ci := 10) (v := .ref (b 50)) (C := RX10) (T := TX10) (N := 51) hx hb hts inw_X10_keeps_10 hown hK hP 0 rfl rfl 50 (by decide) (hts (.fieldLink RX10 102 "VatHouseModel" "then" "[I") (List.mem_of_getElem? (i := 1) (by exact rfl))) (fun _ h9 => h9) rfl dX10_keeps_54 ?_
        refine lv_iload_n hx hb dX10_keeps_57 rfl (lv_at hl 1 rfl) ?_
        refine lv_iconst (v := 4) hx hb dX10_keeps_58 (by decide) ?_
        refine lv_iload hx hb dX10_keeps_59 (lv_at hl 0 rfl) ?_
        refine lv_imul hx hb dX10_keeps_61 ?_
        refine lv_topi (fun z_18 ez_18 => ?_)
        refine lv_iadd hx hb dX10_keeps_62 ?_
        refine lv_topi (fun z_19 ez_19 => ?_)
        refine lv_iconst (v := 2) hx hb dX10_keeps_63 (by decide) ?_
        refine lv_iadd hx hb dX10_keeps_64 ?_
        refine lv_topi (fun z_20 ez_20 => ?_)
        refine lv_aload_n hx hb dX10_keeps_65 rfl (lv_at hl 2 rfl) ?_
        refine va_get (D := (dC, dI)) (ci := 10) (v := .ref (b 6)) (C := RX10) (T := TX10) (N := 51) hx hb hts inw_X10_keeps_10 hown hK hP 0 rfl rfl 6 (by decide) (hts (.fieldLink RX10 16 "VatHouseModel" "minutes" "[I") (List.mem_of_getElem? (i := 4) (by exact rfl))) (fun _ h9 => h9) rfl dX10_keeps_66 ?_
        refine lv_iload hx hb dX10_keeps_69 (lv_at hl 0 rfl) ?_
        refine va_iald hx hb hK hP 3 2 rfl rfl (by rw [hq]; exact vp_in_nI hqlt (by decide)) dX10_keeps_71 ?_
        refine lv_topi (fun z_21 ez_21 => ?_)
        have ez_21 : z_21 = (a 6) ii.toNatClampNeg := ez_21
        refine va_iast hx hb hK hP hD hS 29 28 rfl rfl (by rw [show z_20 = nI (26 * d + 4 * q + 2) from (ixa (ixa (ixm (rfl : (26 : Int32) = nI 26) hd.1 ez_1) (ixm (rfl : (4 : Int32) = nI 4) hq ez_18) ez_19) (rfl : (2 : Int32) = nI 2) ez_20)]; exact vp_in_nI (by omega) (by decide)) dX10_keeps_72 (fun H locs hP hD hS => ?_)
        have hP : va_P (dC, dI) vwCl (mw g h0 b i (va_up a 50 (upd f_17 z_20.toNatClampNeg z_21))) _ := hP
        have hD : va_D _ (mw g h0 b i (va_up a 50 (upd f_17 z_20.toNatClampNeg z_21))) := hD
        obtain ⟨f_22, ef_22⟩ : ∃ z, z = (upd f_17 z_20.toNatClampNeg z_21) := ⟨_, rfl⟩
        rw [← ef_22] at hP hD
        refine lv_aload_n hx hb dX10_keeps_73 rfl (lv_at hl 2 rfl) ?_
        refine va_get (D := (dC, dI)) (ci := 10) (v := .ref (b 50)) (C := RX10) (T := TX10) (N := 51) hx hb hts inw_X10_keeps_10 hown hK hP 0 rfl rfl 50 (by decide) (hts (.fieldLink RX10 102 "VatHouseModel" "then" "[I") (List.mem_of_getElem? (i := 1) (by exact rfl))) (fun _ h9 => h9) rfl dX10_keeps_74 ?_
        refine lv_iload_n hx hb dX10_keeps_77 rfl (lv_at hl 1 rfl) ?_
        refine lv_iconst (v := 4) hx hb dX10_keeps_78 (by decide) ?_
        refine lv_iload hx hb dX10_keeps_79 (lv_at hl 0 rfl) ?_
        refine lv_imul hx hb dX10_keeps_81 ?_
        refine lv_topi (fun z_23 ez_23 => ?_)
        refine lv_iadd hx hb dX10_keeps_82 ?_
        refine lv_topi (fun z_24 ez_24 => ?_)
        refine lv_iconst (v := 3) hx hb dX10_keeps_83 (by decide) ?_
        refine lv_iadd hx hb dX10_keeps_84 ?_
        refine lv_topi (fun z_25 ez_25 => ?_)
        refine lv_aload_n hx hb dX10_keeps_85 rfl (lv_at hl 2 rfl) ?_
        refine va_get (D := (dC, dI)) (ci := 10) (v := .ref (b 7)) (C := RX10) (T := TX10) (N := 51) hx hb hts inw_X10_keeps_10 hown hK hP 0 rfl rfl 7 (by decide) (hts (.fieldLink RX10 19 "VatHouseModel" "state" "[I") (List.mem_of_getElem? (i := 5) (by exact rfl))) (fun _ h9 => h9) rfl dX10_keeps_86 ?_
        refine lv_iload hx hb dX10_keeps_89 (lv_at hl 0 rfl) ?_
        refine va_iald hx hb hK hP 4 3 rfl rfl (by rw [hq]; exact vp_in_nI hqlt (by decide)) dX10_keeps_91 ?_
        refine lv_topi (fun z_26 ez_26 => ?_)
        have ez_26 : z_26 = (a 7) ii.toNatClampNeg := ez_26
        refine va_iast hx hb hK hP hD hS 29 28 rfl rfl (by rw [show z_25 = nI (26 * d + 4 * q + 3) from (ixa (ixa (ixm (rfl : (26 : Int32) = nI 26) hd.1 ez_1) (ixm (rfl : (4 : Int32) = nI 4) hq ez_23) ez_24) (rfl : (3 : Int32) = nI 3) ez_25)]; exact vp_in_nI (by omega) (by decide)) dX10_keeps_92 (fun H locs hP hD hS => ?_)
        have hP : va_P (dC, dI) vwCl (mw g h0 b i (va_up a 50 (upd f_22 z_25.toNatClampNeg z_26))) _ := hP
        have hD : va_D _ (mw g h0 b i (va_up a 50 (upd f_22 z_25.toNatClampNeg z_26))) := hD
        obtain ⟨f_27, ef_27⟩ : ∃ z, z = (upd f_22 z_25.toNatClampNeg z_26) := ⟨_, rfl⟩
        rw [← ef_27] at hP hD
        refine lv_iinc (v := (ii + 1)) (lv' := [(4, .int (ii + 1)), (3, .int z_1), (0, .ref h0), (1, .int de), (2, .int ck)]) hx hb dX10_keeps_93 hl (k := 0) rfl rfl (by decide) rfl (fun ls hl => ?_)
        refine lv_goto (tgt := 8) hx hb dX10_keeps_96 (by decide) ?_
        exact ih (ii + 1) f_27 _ _ _ (up_nx (by decide) hm (by decide) c_2) (⟨q + 1, by rw [hq]; exact nI_1 q, by omega, KPT.nx (t0 := a 50) hk1 hqlt ef_12 ef_17 ef_22 ef_27 (ix_c (show z_10 = nI (26 * d + 4 * q) from (ixa (ixm (rfl : (26 : Int32) = nI 26) hd.1 ez_1) (ixm (rfl : (4 : Int32) = nI 4) hq ez_9) ez_10)) (by omega)) (ix_c (show z_15 = nI (26 * d + 4 * q + 1) from (ixa (ixa (ixm (rfl : (26 : Int32) = nI 26) hd.1 ez_1) (ixm (rfl : (4 : Int32) = nI 4) hq ez_13) ez_14) (rfl : (1 : Int32) = nI 1) ez_15)) (by omega)) (ix_c (show z_20 = nI (26 * d + 4 * q + 2) from (ixa (ixa (ixm (rfl : (26 : Int32) = nI 26) hd.1 ez_1) (ixm (rfl : (4 : Int32) = nI 4) hq ez_18) ez_19) (rfl : (2 : Int32) = nI 2) ez_20)) (by omega)) (ix_c (show z_25 = nI (26 * d + 4 * q + 3) from (ixa (ixa (ixm (rfl : (26 : Int32) = nI 26) hd.1 ez_1) (ixm (rfl : (4 : Int32) = nI 4) hq ez_23) ez_24) (rfl : (3 : Int32) = nI 3) ez_25)) (by omega)) (by rw [ez_11, hiq]) (by rw [ez_16, hiq]) (by rw [ez_21, hiq]) (by rw [ez_26, hiq]) |>.imp_right (fun h9 => h9 hk2)⟩) hP hD hS (lv_sub hl [0, 1, 2, 3, 4] rfl)
  exact lp 7 (0 : Int32) (a 50) _ _ _ (⟨0, nI_0.symm, by omega, by omega⟩) (⟨0, nI_0.symm, by omega, KPT.o, fun _ _ => rfl⟩) hP hD hS (lv_sub hl [0, 1, 2, 3, 4] rfl)

noncomputable abbrev rm_X10_restoresE : Room := { frames := 0, cells := 0, slots := 0, locals := 0 }
set_option maxHeartbeats 4000000 in
set_option maxRecDepth 100000 in
theorem m_X10_restoresE (l : Launch) (dC : Nat → ClassId) (dI : Nat → Nat → Nat) (sa : Nat → Nat) (g : Nat → Nat) (h0 : Nat) (b : Nat → Nat) (d : Nat) (i : Nat → Int32) (a : Nat → Nat → Int32) (de : Int32) (ck : Int32) (sz : Nat) (hd : de = nI d ∧ d ≤ 3) (hc30 : vp_in ck 30) : CT l dC dI sa yX10_restores wsX10_restores rm_X10_restoresE [.ref h0, .int de, .int ck] (mw g h0 b i a) (tyM g) sz (fun (r : Option Value) (u : (Nat → Int32) × (Nat → Int32) × (Nat → Int32) × (Nat → Int32) × (Nat → Int32) × (Nat → Int32)) => match u with | (y4, y5, y6, y7, y14, y15) => (r = none) ∧ (y4 = (fun k => if k < 6 then (a 50) (26 * d + 4 * k) else (a 4) k) ∧ y5 = (fun k => if k < 6 then (a 50) (26 * d + 4 * k + 1) else (a 5) k) ∧ y6 = (fun k => if k < 6 then (a 50) (26 * d + 4 * k + 2) else (a 6) k) ∧ y7 = (fun k => if k < 6 then (a 50) (26 * d + 4 * k + 3) else (a 7) k) ∧ y14 = upd (a 14) ck.toNatClampNeg ((a 50) (26 * d + 24)) ∧ y15 = upd (a 15) ck.toNatClampNeg ((a 50) (26 * d + 25)))) (fun (u : (Nat → Int32) × (Nat → Int32) × (Nat → Int32) × (Nat → Int32) × (Nat → Int32) × (Nat → Int32)) => match u with | (y4, y5, y6, y7, y14, y15) => mw g h0 b i (va_up (va_up (va_up (va_up (va_up (va_up a 4 y4) 5 y5) 6 y6) 7 y7) 14 y14) 15 y15)) (fun _ => []) 0 0 := by
  refine CT.start (cc := cX10_restores) (maxL := 5) (ret := none) (by decide) rfl (Nat.le_of_ble_eq_true rfl) ?_
  intro p e s m below meth c ls hst hP hK hD hev hS hl
  obtain ⟨hx, hb, hr, hml, hts, hown, hlocks, hin⟩ := hst
  have hown : s.vm.findClass RX10 = some m.cls := hown
  have hA : ∀ q : Nat, s.heap.size ≤ q → va_A (mw g h0 b i a) s.heap.size q := fun _ h => Or.inr h
  have hl : lv_has ls 5 [(0, .ref h0), (1, .int de), (2, .int ck)] := hl
  refine lv_bipush (v := 26) hx hb dX10_restores_0 (by decide) ?_
  refine lv_iload_n hx hb dX10_restores_2 rfl (lv_at hl 1 rfl) ?_
  refine lv_imul hx hb dX10_restores_3 ?_
  refine lv_topi (fun z_1 ez_1 => ?_)
  refine lv_istore_n (lv' := [(3, .int z_1), (0, .ref h0), (1, .int de), (2, .int ck)]) hx hb dX10_restores_4 rfl hl (by decide) rfl (fun ls hl => ?_)
  refine lv_iconst (v := 0) hx hb dX10_restores_5 (by decide) ?_
  refine lv_istore (lv' := [(4, .int 0), (3, .int z_1), (0, .ref h0), (1, .int de), (2, .int ck)]) hx hb dX10_restores_6 hl (by decide) rfl (fun ls hl => ?_)
  have lp : ∀ (n : Nat) (ii : Int32) (l4 : Nat → Int32) (l5 : Nat → Int32) (l6 : Nat → Int32) (l7 : Nat → Int32) (H : Heap) (locs : List Loc) (ls : Array Slot), (∃ q : Nat, ii = nI q ∧ q ≤ 6 ∧ 6 < q + n) → (∃ q : Nat, ii = nI q ∧ q ≤ 6 ∧ l4 = (fun k => if k < q then (a 50) (26 * d + 4 * k) else a 4 k) ∧ l5 = (fun k => if k < q then (a 50) (26 * d + 4 * k + 1) else a 5 k) ∧ l6 = (fun k => if k < q then (a 50) (26 * d + 4 * k + 2) else a 6 k) ∧ l7 = (fun k => if k < q then (a 50) (26 * d + 4 * k + 3) else a 7 k)) → va_P (dC, dI) vwCl (mw g h0 b i (va_up (va_up (va_up (va_up a 4 l4) 5 l5) 6 l6) 7 l7)) H → va_D (va_A (mw g h0 b i a) s.heap.size) (mw g h0 b i (va_up (va_up (va_up (va_up a 4 l4) 5 l5) 6 l6) 7 l7)) → va_S (va_A (mw g h0 b i a) s.heap.size) s.heap H locs → lv_has ls 5 [(4, .int ii), (3, .int z_1), (0, .ref h0), (1, .int de), (2, .int ck)] → W p l e rm_X10_restoresE s m [.ref h0, .int de, .int ck].toArray below meth c H locs 0 0 (MQ below (Qg (fun (r : Option Value) (u : (Nat → Int32) × (Nat → Int32) × (Nat → Int32) × (Nat → Int32) × (Nat → Int32) × (Nat → Int32)) => match u with | (y4, y5, y6, y7, y14, y15) => (r = none) ∧ (y4 = (fun k => if k < 6 then (a 50) (26 * d + 4 * k) else (a 4) k) ∧ y5 = (fun k => if k < 6 then (a 50) (26 * d + 4 * k + 1) else (a 5) k) ∧ y6 = (fun k => if k < 6 then (a 50) (26 * d + 4 * k + 2) else (a 6) k) ∧ y7 = (fun k => if k < 6 then (a 50) (26 * d + 4 * k + 3) else (a 7) k) ∧ y14 = upd (a 14) ck.toNatClampNeg ((a 50) (26 * d + 24)) ∧ y15 = upd (a 15) ck.toNatClampNeg ((a 50) (26 * d + 25)))) (fun u t => QW dC dI (va_A (mw g h0 b i a) s.heap.size) ((fun (u : (Nat → Int32) × (Nat → Int32) × (Nat → Int32) × (Nat → Int32) × (Nat → Int32) × (Nat → Int32)) => match u with | (y4, y5, y6, y7, y14, y15) => mw g h0 b i (va_up (va_up (va_up (va_up (va_up (va_up a 4 y4) 5 y5) 6 y6) 7 y7) 14 y14) 15 y15)) u) [] t) (va_A (mw g h0 b i a) s.heap.size)) [.ref h0, .int de, .int ck].toArray s 0 0 (va_A (mw g h0 b i a) s.heap.size)) (F0 m 8 ls []) := by
    intro n
    induction n with
    | zero => intro ii l4 l5 l6 l7 H locs ls hm hL hP hD hS hl; exact absurd hm (by rintro ⟨q, -, h1, h2⟩; omega)
    | succ n ih =>
      intro ii l4 l5 l6 l7 H locs ls hm hL hP hD hS hl
      refine lv_iload hx hb dX10_restores_8 (lv_at hl 0 rfl) ?_
      obtain ⟨q, hq, hq6, hr4, hr5, hr6, hr7⟩ := hL
      have hd3 := hd.2
      have hiq : ii.toNatClampNeg = q := by rw [hq]; exact nI_clamp (by omega)
      refine lv_bipush (v := 6) hx hb dX10_restores_10 (by decide) ?_
      refine lv_icmp_ge (tgt := 99) hx hb dX10_restores_12 (by decide) (fun c_2 => ?_) (fun c_2 => ?_)
      · have nc_2 := le_i c_2
        have lc_2 : (6 : Int32).toInt = 6 := by decide
        obtain rfl : q = 6 := up_ge hq hq6 (by decide) c_2
        refine lv_aload_n hx hb dX10_restores_99 rfl (lv_at hl 2 rfl) ?_
        refine va_get (D := (dC, dI)) (ci := 10) (v := .ref (b 14)) (C := RX10) (T := TX10) (N := 51) hx hb hts inw_X10_restores_10 hown hK hP 0 rfl rfl 14 (by decide) (hts (.fieldLink RX10 38 "VatHouseModel" "loose" "[I") (List.mem_of_getElem? (i := 6) (by exact rfl))) (fun _ h9 => h9) rfl dX10_restores_100 ?_
        refine lv_iload_n hx hb dX10_restores_103 rfl (lv_at hl 4 rfl) ?_
        refine lv_aload_n hx hb dX10_restores_104 rfl (lv_at hl 2 rfl) ?_
        refine va_get (D := (dC, dI)) (ci := 10) (v := .ref (b 50)) (C := RX10) (T := TX10) (N := 51) hx hb hts inw_X10_restores_10 hown hK hP 0 rfl rfl 50 (by decide) (hts (.fieldLink RX10 102 "VatHouseModel" "then" "[I") (List.mem_of_getElem? (i := 2) (by exact rfl))) (fun _ h9 => h9) rfl dX10_restores_105 ?_
        refine lv_iload_n hx hb dX10_restores_108 rfl (lv_at hl 1 rfl) ?_
        refine lv_bipush (v := 24) hx hb dX10_restores_109 (by decide) ?_
        refine lv_iadd hx hb dX10_restores_111 ?_
        refine lv_topi (fun z_3 ez_3 => ?_)
        refine va_iald hx hb hK hP 29 28 rfl rfl (by rw [show z_3 = nI (26 * d + 24) from (ixa (ixm (rfl : (26 : Int32) = nI 26) hd.1 ez_1) (rfl : (24 : Int32) = nI 24) ez_3)]; exact vp_in_nI (by omega) (by decide)) dX10_restores_112 ?_
        refine lv_topi (fun z_4 ez_4 => ?_)
        have ez_4 : z_4 = (a 50) z_3.toNatClampNeg := ez_4
        refine va_iast hx hb hK hP hD hS 10 9 rfl rfl (by assumption) dX10_restores_113 (fun H locs hP hD hS => ?_)
        have hP : va_P (dC, dI) vwCl (mw g h0 b i (va_up (va_up (va_up (va_up (va_up a 4 l4) 5 l5) 6 l6) 7 l7) 14 (upd (a 14) ck.toNatClampNeg z_4))) _ := hP
        have hD : va_D _ (mw g h0 b i (va_up (va_up (va_up (va_up (va_up a 4 l4) 5 l5) 6 l6) 7 l7) 14 (upd (a 14) ck.toNatClampNeg z_4))) := hD
        obtain ⟨f_5, ef_5⟩ : ∃ z, z = (upd (a 14) ck.toNatClampNeg z_4) := ⟨_, rfl⟩
        rw [← ef_5] at hP hD
        refine lv_aload_n hx hb dX10_restores_114 rfl (lv_at hl 2 rfl) ?_
        refine va_get (D := (dC, dI)) (ci := 10) (v := .ref (b 15)) (C := RX10) (T := TX10) (N := 51) hx hb hts inw_X10_restores_10 hown hK hP 0 rfl rfl 15 (by decide) (hts (.fieldLink RX10 41 "VatHouseModel" "fast" "[I") (List.mem_of_getElem? (i := 7) (by exact rfl))) (fun _ h9 => h9) rfl dX10_restores_115 ?_
        refine lv_iload_n hx hb dX10_restores_118 rfl (lv_at hl 4 rfl) ?_
        refine lv_aload_n hx hb dX10_restores_119 rfl (lv_at hl 2 rfl) ?_
        refine va_get (D := (dC, dI)) (ci := 10) (v := .ref (b 50)) (C := RX10) (T := TX10) (N := 51) hx hb hts inw_X10_restores_10 hown hK hP 0 rfl rfl 50 (by decide) (hts (.fieldLink RX10 102 "VatHouseModel" "then" "[I") (List.mem_of_getElem? (i := 2) (by exact rfl))) (fun _ h9 => h9) rfl dX10_restores_120 ?_
        refine lv_iload_n hx hb dX10_restores_123 rfl (lv_at hl 1 rfl) ?_
        refine lv_bipush (v := 25) hx hb dX10_restores_124 (by decide) ?_
        refine lv_iadd hx hb dX10_restores_126 ?_
        refine lv_topi (fun z_6 ez_6 => ?_)
        refine va_iald hx hb hK hP 29 28 rfl rfl (by rw [show z_6 = nI (26 * d + 25) from (ixa (ixm (rfl : (26 : Int32) = nI 26) hd.1 ez_1) (rfl : (25 : Int32) = nI 25) ez_6)]; exact vp_in_nI (by omega) (by decide)) dX10_restores_127 ?_
        refine lv_topi (fun z_7 ez_7 => ?_)
        have ez_7 : z_7 = (a 50) z_6.toNatClampNeg := ez_7
        refine va_iast hx hb hK hP hD hS 11 10 rfl rfl (by assumption) dX10_restores_128 (fun H locs hP hD hS => ?_)
        have hP : va_P (dC, dI) vwCl (mw g h0 b i (va_up (va_up (va_up (va_up (va_up (va_up a 4 l4) 5 l5) 6 l6) 7 l7) 14 f_5) 15 (upd (a 15) ck.toNatClampNeg z_7))) _ := hP
        have hD : va_D _ (mw g h0 b i (va_up (va_up (va_up (va_up (va_up (va_up a 4 l4) 5 l5) 6 l6) 7 l7) 14 f_5) 15 (upd (a 15) ck.toNatClampNeg z_7))) := hD
        obtain ⟨f_8, ef_8⟩ : ∃ z, z = (upd (a 15) ck.toNatClampNeg z_7) := ⟨_, rfl⟩
        rw [← ef_8] at hP hD
        exact M_v hx hb hr hlocks (l4, l5, l6, l7, f_5, f_8) hP hD hK hS ⟨rfl, ⟨hr4, hr5, hr6, hr7, (by rw [ef_5, ez_4, (ix_c (show z_3 = nI (26 * d + 24) from (ixa (ixm (rfl : (26 : Int32) = nI 26) hd.1 ez_1) (rfl : (24 : Int32) = nI 24) ez_3)) (by omega))]), (by rw [ef_8, ez_7, (ix_c (show z_6 = nI (26 * d + 25) from (ixa (ixm (rfl : (26 : Int32) = nI 26) hd.1 ez_1) (rfl : (25 : Int32) = nI 25) ez_6)) (by omega))])⟩⟩ (Nat.le_of_ble_eq_true rfl) (Nat.le_of_ble_eq_true rfl) dX10_restores_129
      · have nc_2 := nle_i c_2
        have lc_2 : (6 : Int32).toInt = 6 := by decide
        have hqlt : q < 6 := up_lt (by decide) hq hq6 (by decide) c_2
        refine lv_aload_n hx hb dX10_restores_15 rfl (lv_at hl 2 rfl) ?_
        refine va_get (D := (dC, dI)) (ci := 10) (v := .ref (b 4)) (C := RX10) (T := TX10) (N := 51) hx hb hts inw_X10_restores_10 hown hK hP 0 rfl rfl 4 (by decide) (hts (.fieldLink RX10 7 "VatHouseModel" "grains" "[I") (List.mem_of_getElem? (i := 1) (by exact rfl))) (fun _ h9 => h9) rfl dX10_restores_16 ?_
        refine lv_iload hx hb dX10_restores_19 (lv_at hl 0 rfl) ?_
        refine lv_aload_n hx hb dX10_restores_21 rfl (lv_at hl 2 rfl) ?_
        refine va_get (D := (dC, dI)) (ci := 10) (v := .ref (b 50)) (C := RX10) (T := TX10) (N := 51) hx hb hts inw_X10_restores_10 hown hK hP 0 rfl rfl 50 (by decide) (hts (.fieldLink RX10 102 "VatHouseModel" "then" "[I") (List.mem_of_getElem? (i := 2) (by exact rfl))) (fun _ h9 => h9) rfl dX10_restores_22 ?_
        refine lv_iload_n hx hb dX10_restores_25 rfl (lv_at hl 1 rfl) ?_
        refine lv_iconst (v := 4) hx hb dX10_restores_26 (by decide) ?_
        refine lv_iload hx hb dX10_restores_27 (lv_at hl 0 rfl) ?_
        refine lv_imul hx hb dX10_restores_29 ?_
        refine lv_topi (fun z_9 ez_9 => ?_)
        refine lv_iadd hx hb dX10_restores_30 ?_
        refine lv_topi (fun z_10 ez_10 => ?_)
        refine va_iald hx hb hK hP 29 28 rfl rfl (by rw [show z_10 = nI (26 * d + 4 * q) from (ixa (ixm (rfl : (26 : Int32) = nI 26) hd.1 ez_1) (ixm (rfl : (4 : Int32) = nI 4) hq ez_9) ez_10)]; exact vp_in_nI (by omega) (by decide)) dX10_restores_31 ?_
        refine lv_topi (fun z_11 ez_11 => ?_)
        have ez_11 : z_11 = (a 50) z_10.toNatClampNeg := ez_11
        refine va_iast hx hb hK hP hD hS 1 0 rfl rfl (by rw [hq]; exact vp_in_nI hqlt (by decide)) dX10_restores_32 (fun H locs hP hD hS => ?_)
        have hP : va_P (dC, dI) vwCl (mw g h0 b i (va_up (va_up (va_up (va_up a 4 (upd l4 ii.toNatClampNeg z_11)) 5 l5) 6 l6) 7 l7)) _ := hP
        have hD : va_D _ (mw g h0 b i (va_up (va_up (va_up (va_up a 4 (upd l4 ii.toNatClampNeg z_11)) 5 l5) 6 l6) 7 l7)) := hD
        obtain ⟨f_12, ef_12⟩ : ∃ z, z = (upd l4 ii.toNatClampNeg z_11) := ⟨_, rfl⟩
        rw [← ef_12] at hP hD
        refine lv_aload_n hx hb dX10_restores_33 rfl (lv_at hl 2 rfl) ?_
        refine va_get (D := (dC, dI)) (ci := 10) (v := .ref (b 5)) (C := RX10) (T := TX10) (N := 51) hx hb hts inw_X10_restores_10 hown hK hP 0 rfl rfl 5 (by decide) (hts (.fieldLink RX10 13 "VatHouseModel" "food" "[I") (List.mem_of_getElem? (i := 3) (by exact rfl))) (fun _ h9 => h9) rfl dX10_restores_34 ?_
        refine lv_iload hx hb dX10_restores_37 (lv_at hl 0 rfl) ?_
        refine lv_aload_n hx hb dX10_restores_39 rfl (lv_at hl 2 rfl) ?_
        refine va_get (D := (dC, dI)) (ci := 10) (v := .ref (b 50)) (C := RX10) (T := TX10) (N := 51) hx hb hts inw_X10_restores_10 hown hK hP 0 rfl rfl 50 (by decide) (hts (.fieldLink RX10 102 "VatHouseModel" "then" "[I") (List.mem_of_getElem? (i := 2) (by exact rfl))) (fun _ h9 => h9) rfl dX10_restores_40 ?_
        refine lv_iload_n hx hb dX10_restores_43 rfl (lv_at hl 1 rfl) ?_
        refine lv_iconst (v := 4) hx hb dX10_restores_44 (by decide) ?_
        refine lv_iload hx hb dX10_restores_45 (lv_at hl 0 rfl) ?_
        refine lv_imul hx hb dX10_restores_47 ?_
        refine lv_topi (fun z_13 ez_13 => ?_)
        refine lv_iadd hx hb dX10_restores_48 ?_
        refine lv_topi (fun z_14 ez_14 => ?_)
        refine lv_iconst (v := 1) hx hb dX10_restores_49 (by decide) ?_
        refine lv_iadd hx hb dX10_restores_50 ?_
        refine lv_topi (fun z_15 ez_15 => ?_)
        refine va_iald hx hb hK hP 29 28 rfl rfl (by rw [show z_15 = nI (26 * d + 4 * q + 1) from (ixa (ixa (ixm (rfl : (26 : Int32) = nI 26) hd.1 ez_1) (ixm (rfl : (4 : Int32) = nI 4) hq ez_13) ez_14) (rfl : (1 : Int32) = nI 1) ez_15)]; exact vp_in_nI (by omega) (by decide)) dX10_restores_51 ?_
        refine lv_topi (fun z_16 ez_16 => ?_)
        have ez_16 : z_16 = (a 50) z_15.toNatClampNeg := ez_16
        refine va_iast hx hb hK hP hD hS 2 1 rfl rfl (by rw [hq]; exact vp_in_nI hqlt (by decide)) dX10_restores_52 (fun H locs hP hD hS => ?_)
        have hP : va_P (dC, dI) vwCl (mw g h0 b i (va_up (va_up (va_up (va_up a 4 f_12) 5 (upd l5 ii.toNatClampNeg z_16)) 6 l6) 7 l7)) _ := hP
        have hD : va_D _ (mw g h0 b i (va_up (va_up (va_up (va_up a 4 f_12) 5 (upd l5 ii.toNatClampNeg z_16)) 6 l6) 7 l7)) := hD
        obtain ⟨f_17, ef_17⟩ : ∃ z, z = (upd l5 ii.toNatClampNeg z_16) := ⟨_, rfl⟩
        rw [← ef_17] at hP hD
        refine lv_aload_n hx hb dX10_restores_53 rfl (lv_at hl 2 rfl) ?_
        refine va_get (D := (dC, dI)) (ci := 10) (v := .ref (b 6)) (C := RX10) (T := TX10) (N := 51) hx hb hts inw_X10_restores_10 hown hK hP 0 rfl rfl 6 (by decide) (hts (.fieldLink RX10 16 "VatHouseModel" "minutes" "[I") (List.mem_of_getElem? (i := 4) (by exact rfl))) (fun _ h9 => h9) rfl dX10_restores_54 ?_
        refine lv_iload hx hb dX10_restores_57 (lv_at hl 0 rfl) ?_
        refine lv_aload_n hx hb dX10_restores_59 rfl (lv_at hl 2 rfl) ?_
        refine va_get (D := (dC, dI)) (ci := 10) (v := .ref (b 50)) (C := RX10) (T := TX10) (N := 51) hx hb hts inw_X10_restores_10 hown hK hP 0 rfl rfl 50 (by decide) (hts (.fieldLink RX10 102 "VatHouseModel" "then" "[I") (List.mem_of_getElem? (i := 2) (by exact rfl))) (fun _ h9 => h9) rfl dX10_restores_60 ?_
        refine lv_iload_n hx hb dX10_restores_63 rfl (lv_at hl 1 rfl) ?_
        refine lv_iconst (v := 4) hx hb dX10_restores_64 (by decide) ?_
        refine lv_iload hx hb dX10_restores_65 (lv_at hl 0 rfl) ?_
        refine lv_imul hx hb dX10_restores_67 ?_
        refine lv_topi (fun z_18 ez_18 => ?_)
        refine lv_iadd hx hb dX10_restores_68 ?_
        refine lv_topi (fun z_19 ez_19 => ?_)
        refine lv_iconst (v := 2) hx hb dX10_restores_69 (by decide) ?_
        refine lv_iadd hx hb dX10_restores_70 ?_
        refine lv_topi (fun z_20 ez_20 => ?_)
        refine va_iald hx hb hK hP 29 28 rfl rfl (by rw [show z_20 = nI (26 * d + 4 * q + 2) from (ixa (ixa (ixm (rfl : (26 : Int32) = nI 26) hd.1 ez_1) (ixm (rfl : (4 : Int32) = nI 4) hq ez_18) ez_19) (rfl : (2 : Int32) = nI 2) ez_20)]; exact vp_in_nI (by omega) (by decide)) dX10_restores_71 ?_
        refine lv_topi (fun z_21 ez_21 => ?_)
        have ez_21 : z_21 = (a 50) z_20.toNatClampNeg := ez_21
        refine va_iast hx hb hK hP hD hS 3 2 rfl rfl (by rw [hq]; exact vp_in_nI hqlt (by decide)) dX10_restores_72 (fun H locs hP hD hS => ?_)
        have hP : va_P (dC, dI) vwCl (mw g h0 b i (va_up (va_up (va_up (va_up a 4 f_12) 5 f_17) 6 (upd l6 ii.toNatClampNeg z_21)) 7 l7)) _ := hP
        have hD : va_D _ (mw g h0 b i (va_up (va_up (va_up (va_up a 4 f_12) 5 f_17) 6 (upd l6 ii.toNatClampNeg z_21)) 7 l7)) := hD
        obtain ⟨f_22, ef_22⟩ : ∃ z, z = (upd l6 ii.toNatClampNeg z_21) := ⟨_, rfl⟩
        rw [← ef_22] at hP hD
        refine lv_aload_n hx hb dX10_restores_73 rfl (lv_at hl 2 rfl) ?_
        refine va_get (D := (dC, dI)) (ci := 10) (v := .ref (b 7)) (C := RX10) (T := TX10) (N := 51) hx hb hts inw_X10_restores_10 hown hK hP 0 rfl rfl 7 (by decide) (hts (.fieldLink RX10 19 "VatHouseModel" "state" "[I") (List.mem_of_getElem? (i := 5) (by exact rfl))) (fun _ h9 => h9) rfl dX10_restores_74 ?_
        refine lv_iload hx hb dX10_restores_77 (lv_at hl 0 rfl) ?_
        refine lv_aload_n hx hb dX10_restores_79 rfl (lv_at hl 2 rfl) ?_
        refine va_get (D := (dC, dI)) (ci := 10) (v := .ref (b 50)) (C := RX10) (T := TX10) (N := 51) hx hb hts inw_X10_restores_10 hown hK hP 0 rfl rfl 50 (by decide) (hts (.fieldLink RX10 102 "VatHouseModel" "then" "[I") (List.mem_of_getElem? (i := 2) (by exact rfl))) (fun _ h9 => h9) rfl dX10_restores_80 ?_
        refine lv_iload_n hx hb dX10_restores_83 rfl (lv_at hl 1 rfl) ?_
        refine lv_iconst (v := 4) hx hb dX10_restores_84 (by decide) ?_
        refine lv_iload hx hb dX10_restores_85 (lv_at hl 0 rfl) ?_
        refine lv_imul hx hb dX10_restores_87 ?_
        refine lv_topi (fun z_23 ez_23 => ?_)
        refine lv_iadd hx hb dX10_restores_88 ?_
        refine lv_topi (fun z_24 ez_24 => ?_)
        refine lv_iconst (v := 3) hx hb dX10_restores_89 (by decide) ?_
        refine lv_iadd hx hb dX10_restores_90 ?_
        refine lv_topi (fun z_25 ez_25 => ?_)
        refine va_iald hx hb hK hP 29 28 rfl rfl (by rw [show z_25 = nI (26 * d + 4 * q + 3) from (ixa (ixa (ixm (rfl : (26 : Int32) = nI 26) hd.1 ez_1) (ixm (rfl : (4 : Int32) = nI 4) hq ez_23) ez_24) (rfl : (3 : Int32) = nI 3) ez_25)]; exact vp_in_nI (by omega) (by decide)) dX10_restores_91 ?_
        refine lv_topi (fun z_26 ez_26 => ?_)
        have ez_26 : z_26 = (a 50) z_25.toNatClampNeg := ez_26
        refine va_iast hx hb hK hP hD hS 4 3 rfl rfl (by rw [hq]; exact vp_in_nI hqlt (by decide)) dX10_restores_92 (fun H locs hP hD hS => ?_)
        have hP : va_P (dC, dI) vwCl (mw g h0 b i (va_up (va_up (va_up (va_up a 4 f_12) 5 f_17) 6 f_22) 7 (upd l7 ii.toNatClampNeg z_26))) _ := hP
        have hD : va_D _ (mw g h0 b i (va_up (va_up (va_up (va_up a 4 f_12) 5 f_17) 6 f_22) 7 (upd l7 ii.toNatClampNeg z_26))) := hD
        obtain ⟨f_27, ef_27⟩ : ∃ z, z = (upd l7 ii.toNatClampNeg z_26) := ⟨_, rfl⟩
        rw [← ef_27] at hP hD
        refine lv_iinc (v := (ii + 1)) (lv' := [(4, .int (ii + 1)), (3, .int z_1), (0, .ref h0), (1, .int de), (2, .int ck)]) hx hb dX10_restores_93 hl (k := 0) rfl rfl (by decide) rfl (fun ls hl => ?_)
        refine lv_goto (tgt := 8) hx hb dX10_restores_96 (by decide) ?_
        exact ih (ii + 1) f_12 f_17 f_22 f_27 _ _ _ (up_nx (by decide) hm (by decide) c_2) (⟨q + 1, by rw [hq]; exact nI_1 q, by omega, (by rw [ef_12, hiq]; exact up_st hr4 (by rw [ez_11, (ix_c (show z_10 = nI (26 * d + 4 * q) from (ixa (ixm (rfl : (26 : Int32) = nI 26) hd.1 ez_1) (ixm (rfl : (4 : Int32) = nI 4) hq ez_9) ez_10)) (by omega))])), (by rw [ef_17, hiq]; exact up_st hr5 (by rw [ez_16, (ix_c (show z_15 = nI (26 * d + 4 * q + 1) from (ixa (ixa (ixm (rfl : (26 : Int32) = nI 26) hd.1 ez_1) (ixm (rfl : (4 : Int32) = nI 4) hq ez_13) ez_14) (rfl : (1 : Int32) = nI 1) ez_15)) (by omega))])), (by rw [ef_22, hiq]; exact up_st hr6 (by rw [ez_21, (ix_c (show z_20 = nI (26 * d + 4 * q + 2) from (ixa (ixa (ixm (rfl : (26 : Int32) = nI 26) hd.1 ez_1) (ixm (rfl : (4 : Int32) = nI 4) hq ez_18) ez_19) (rfl : (2 : Int32) = nI 2) ez_20)) (by omega))])), (by rw [ef_27, hiq]; exact up_st hr7 (by rw [ez_26, (ix_c (show z_25 = nI (26 * d + 4 * q + 3) from (ixa (ixa (ixm (rfl : (26 : Int32) = nI 26) hd.1 ez_1) (ixm (rfl : (4 : Int32) = nI 4) hq ez_23) ez_24) (rfl : (3 : Int32) = nI 3) ez_25)) (by omega))]))⟩) hP hD hS (lv_sub hl [0, 1, 2, 3, 4] rfl)
  exact lp 7 (0 : Int32) (a 4) (a 5) (a 6) (a 7) _ _ _ (⟨0, nI_0.symm, by omega, by omega⟩) (⟨0, nI_0.symm, by omega, rfl, rfl, rfl, rfl⟩) hP hD hS (lv_sub hl [0, 1, 2, 3, 4] rfl)

noncomputable abbrev rm_X10_thinksE : Room := { frames := 1, cells := 0, slots := 0, locals := 25 }
set_option maxHeartbeats 4000000 in
set_option maxRecDepth 100000 in
theorem m_X10_thinksE (l : Launch) (dC : Nat → ClassId) (dI : Nat → Nat → Nat) (sa : Nat → Nat) (g : Nat → Nat) (h0 : Nat) (b : Nat → Nat) (i : Nat → Int32) (a : Nat → Nat → Int32) (ck : Int32) (vv : Int32) (mm : Int32) (sz : Nat) (hc30 : vp_in ck 30) (hv6 : vp_in vv 6) (hwt : 1 ≤ ((a 13) ck.toNatClampNeg).toInt ∧ ((a 13) ck.toNatClampNeg).toInt ≤ 50) : CT l dC dI sa yX10_thinks wsX10_thinks rm_X10_thinksE [.ref h0, .int ck, .int vv, .int mm] (mw g h0 b i a) (tyM g) sz (fun (r : Option Value) (u : (Nat → Int32) × (Nat → Int32) × (Nat → Int32) × (Nat → Int32) × (Nat → Int32) × (Nat → Int32)) => match u with | (y4, y5, y6, y7, y14, y15) => (r = none) ∧ (y4 = upd (a 4) vv.toNatClampNeg (((a 4) vv.toNatClampNeg) - (mvV ((a 4) vv.toNatClampNeg) ((a 7) vv.toNatClampNeg) ((a 13) ck.toNatClampNeg) ((a 14) ck.toNatClampNeg) ((a 15) ck.toNatClampNeg) mm)) ∧ y5 = upd (a 5) vv.toNatClampNeg (skF ((a 5) vv.toNatClampNeg) mm) ∧ y6 = upd (a 6) vv.toNatClampNeg (((a 6) vv.toNatClampNeg) + mm) ∧ y7 = upd (a 7) vv.toNatClampNeg (skS ((a 6) vv.toNatClampNeg) ((a 5) vv.toNatClampNeg) ((a 7) vv.toNatClampNeg) mm) ∧ y14 = upd (a 14) ck.toNatClampNeg (0) ∧ y15 = upd (a 15) ck.toNatClampNeg (((a 15) ck.toNatClampNeg) + ((((a 14) ck.toNatClampNeg) + (mvV ((a 4) vv.toNatClampNeg) ((a 7) vv.toNatClampNeg) ((a 13) ck.toNatClampNeg) ((a 14) ck.toNatClampNeg) ((a 15) ck.toNatClampNeg) mm)) - (((a 14) ck.toNatClampNeg) + (mvV ((a 4) vv.toNatClampNeg) ((a 7) vv.toNatClampNeg) ((a 13) ck.toNatClampNeg) ((a 14) ck.toNatClampNeg) ((a 15) ck.toNatClampNeg) mm)) / 8)))) (fun (u : (Nat → Int32) × (Nat → Int32) × (Nat → Int32) × (Nat → Int32) × (Nat → Int32) × (Nat → Int32)) => match u with | (y4, y5, y6, y7, y14, y15) => mw g h0 b i (va_up (va_up (va_up (va_up (va_up (va_up a 4 y4) 5 y5) 6 y6) 7 y7) 14 y14) 15 y15)) (fun _ => []) 0 0 := by
  refine CT.start (cc := cX10_thinks) (maxL := 5) (ret := none) (by decide) rfl (Nat.le_of_ble_eq_true rfl) ?_
  intro p e s m below meth c ls hst hP hK hD hev hS hl
  obtain ⟨hx, hb, hr, hml, hts, hown, hlocks, hin⟩ := hst
  have hown : s.vm.findClass RX10 = some m.cls := hown
  have hA : ∀ q : Nat, s.heap.size ≤ q → va_A (mw g h0 b i a) s.heap.size q := fun _ h => Or.inr h
  have hl : lv_has ls 5 [(0, .ref h0), (1, .int ck), (2, .int vv), (3, .int mm)] := hl
  refine lv_aload_n hx hb dX10_thinks_0 rfl (lv_at hl 0 rfl) ?_
  refine lv_iload_n hx hb dX10_thinks_1 rfl (lv_at hl 1 rfl) ?_
  refine lv_iload_n hx hb dX10_thinks_2 rfl (lv_at hl 2 rfl) ?_
  refine lv_iload_n hx hb dX10_thinks_3 rfl (lv_at hl 3 rfl) ?_
  refine M_V ⟨hx, hb, hml, hown, hts⟩ (m_X10_movesE l dC dI sa g h0 b i a ck vv mm _ hc30 hv6 hwt) (cwV 3 hts gX10_thinks_X10_moves rfl rfl rfl (by decide +kernel) ⟨Nat.le_of_ble_eq_true rfl, Nat.le_of_ble_eq_true rfl⟩) hP hD hK hS hA hev rfl rfl rfl rfl hl.1 rfl (Nat.le_of_ble_eq_true rfl) dX10_thinks_4 ⟨(Nat.le_of_ble_eq_true rfl), (Nat.le_of_ble_eq_true rfl)⟩ (fun r u H locs hw hP hD hS => ?_)
  have hw : (∃ z : Int32, r = some (.int z) ∧ (z = mvV ((a 4) vv.toNatClampNeg) ((a 7) vv.toNatClampNeg) ((a 13) ck.toNatClampNeg) ((a 14) ck.toNatClampNeg) ((a 15) ck.toNatClampNeg) mm)) ∧ (True) := hw
  obtain ⟨⟨z_2, rfl, hz_z_2⟩, hw_1⟩ := hw
  have hP : va_P (dC, dI) vwCl (mw g h0 b i a) _ := hP
  have hD : va_D _ (mw g h0 b i a) := hD
  refine W.eq (g2 := F0 m 7 ls [.int z_2]) rfl ?_
  have ez_2 := hz_z_2
  refine lv_istore (lv' := [(4, .int z_2), (0, .ref h0), (1, .int ck), (2, .int vv), (3, .int mm)]) hx hb dX10_thinks_7 hl (by decide) rfl (fun ls hl => ?_)
  refine lv_aload_n hx hb dX10_thinks_9 rfl (lv_at hl 1 rfl) ?_
  refine va_get (D := (dC, dI)) (ci := 10) (v := .ref (b 4)) (C := RX10) (T := TX10) (N := 51) hx hb hts inw_X10_thinks_10 hown hK hP 0 rfl rfl 4 (by decide) (hts (.fieldLink RX10 7 "VatHouseModel" "grains" "[I") (List.mem_of_getElem? (i := 1) (by exact rfl))) (fun _ h9 => h9) rfl dX10_thinks_10 ?_
  refine lv_iload_n hx hb dX10_thinks_13 rfl (lv_at hl 3 rfl) ?_
  refine lv_dup2_11 hx hb dX10_thinks_14 rfl rfl ?_
  refine va_iald hx hb hK hP 1 0 rfl rfl (by assumption) dX10_thinks_15 ?_
  refine lv_topi (fun z_3 ez_3 => ?_)
  have ez_3 : z_3 = (a 4) vv.toNatClampNeg := ez_3
  refine lv_iload hx hb dX10_thinks_16 (lv_at hl 0 rfl) ?_
  refine lv_isub hx hb dX10_thinks_18 ?_
  refine lv_topi (fun z_4 ez_4 => ?_)
  refine va_iast hx hb hK hP hD hS 1 0 rfl rfl (by assumption) dX10_thinks_19 (fun H locs hP hD hS => ?_)
  have hP : va_P (dC, dI) vwCl (mw g h0 b i (va_up a 4 (upd (a 4) vv.toNatClampNeg z_4))) _ := hP
  have hD : va_D _ (mw g h0 b i (va_up a 4 (upd (a 4) vv.toNatClampNeg z_4))) := hD
  obtain ⟨f_5, ef_5⟩ : ∃ z, z = (upd (a 4) vv.toNatClampNeg z_4) := ⟨_, rfl⟩
  rw [← ef_5] at hP hD
  refine lv_aload_n hx hb dX10_thinks_20 rfl (lv_at hl 1 rfl) ?_
  refine va_get (D := (dC, dI)) (ci := 10) (v := .ref (b 14)) (C := RX10) (T := TX10) (N := 51) hx hb hts inw_X10_thinks_10 hown hK hP 0 rfl rfl 14 (by decide) (hts (.fieldLink RX10 38 "VatHouseModel" "loose" "[I") (List.mem_of_getElem? (i := 2) (by exact rfl))) (fun _ h9 => h9) rfl dX10_thinks_21 ?_
  refine lv_iload_n hx hb dX10_thinks_24 rfl (lv_at hl 2 rfl) ?_
  refine lv_dup2_11 hx hb dX10_thinks_25 rfl rfl ?_
  refine va_iald hx hb hK hP 10 9 rfl rfl (by assumption) dX10_thinks_26 ?_
  refine lv_topi (fun z_6 ez_6 => ?_)
  have ez_6 : z_6 = (a 14) ck.toNatClampNeg := ez_6
  refine lv_iload hx hb dX10_thinks_27 (lv_at hl 0 rfl) ?_
  refine lv_iadd hx hb dX10_thinks_29 ?_
  refine lv_topi (fun z_7 ez_7 => ?_)
  refine va_iast hx hb hK hP hD hS 10 9 rfl rfl (by assumption) dX10_thinks_30 (fun H locs hP hD hS => ?_)
  have hP : va_P (dC, dI) vwCl (mw g h0 b i (va_up (va_up a 4 f_5) 14 (upd (a 14) ck.toNatClampNeg z_7))) _ := hP
  have hD : va_D _ (mw g h0 b i (va_up (va_up a 4 f_5) 14 (upd (a 14) ck.toNatClampNeg z_7))) := hD
  obtain ⟨f_8, ef_8⟩ : ∃ z, z = (upd (a 14) ck.toNatClampNeg z_7) := ⟨_, rfl⟩
  rw [← ef_8] at hP hD
  refine lv_aload_n hx hb dX10_thinks_31 rfl (lv_at hl 1 rfl) ?_
  refine va_get (D := (dC, dI)) (ci := 10) (v := .ref (b 6)) (C := RX10) (T := TX10) (N := 51) hx hb hts inw_X10_thinks_10 hown hK hP 0 rfl rfl 6 (by decide) (hts (.fieldLink RX10 16 "VatHouseModel" "minutes" "[I") (List.mem_of_getElem? (i := 3) (by exact rfl))) (fun _ h9 => h9) rfl dX10_thinks_32 ?_
  refine lv_iload_n hx hb dX10_thinks_35 rfl (lv_at hl 3 rfl) ?_
  refine lv_dup2_11 hx hb dX10_thinks_36 rfl rfl ?_
  refine va_iald hx hb hK hP 3 2 rfl rfl (by assumption) dX10_thinks_37 ?_
  refine lv_topi (fun z_9 ez_9 => ?_)
  have ez_9 : z_9 = (a 6) vv.toNatClampNeg := ez_9
  refine lv_iload_n hx hb dX10_thinks_38 rfl (lv_at hl 4 rfl) ?_
  refine lv_iadd hx hb dX10_thinks_39 ?_
  refine lv_topi (fun z_10 ez_10 => ?_)
  refine va_iast hx hb hK hP hD hS 3 2 rfl rfl (by assumption) dX10_thinks_40 (fun H locs hP hD hS => ?_)
  have hP : va_P (dC, dI) vwCl (mw g h0 b i (va_up (va_up (va_up a 4 f_5) 6 (upd (a 6) vv.toNatClampNeg z_10)) 14 f_8)) _ := hP
  have hD : va_D _ (mw g h0 b i (va_up (va_up (va_up a 4 f_5) 6 (upd (a 6) vv.toNatClampNeg z_10)) 14 f_8)) := hD
  obtain ⟨f_11, ef_11⟩ : ∃ z, z = (upd (a 6) vv.toNatClampNeg z_10) := ⟨_, rfl⟩
  rw [← ef_11] at hP hD
  refine lv_aload_n hx hb dX10_thinks_41 rfl (lv_at hl 1 rfl) ?_
  refine va_get (D := (dC, dI)) (ci := 10) (v := .ref (b 6)) (C := RX10) (T := TX10) (N := 51) hx hb hts inw_X10_thinks_10 hown hK hP 0 rfl rfl 6 (by decide) (hts (.fieldLink RX10 16 "VatHouseModel" "minutes" "[I") (List.mem_of_getElem? (i := 3) (by exact rfl))) (fun _ h9 => h9) rfl dX10_thinks_42 ?_
  refine lv_iload_n hx hb dX10_thinks_45 rfl (lv_at hl 3 rfl) ?_
  refine va_iald hx hb hK hP 3 2 rfl rfl (by assumption) dX10_thinks_46 ?_
  refine lv_topi (fun z_12 ez_12 => ?_)
  have ez_12 : z_12 = f_11 vv.toNatClampNeg := ez_12
  refine lv_bipush (v := 60) hx hb dX10_thinks_47 (by decide) ?_
  refine lv_icmp_le (tgt := 59) hx hb dX10_thinks_49 (by decide) (fun c_13 => ?_) (fun c_13 => ?_)
  · have nc_13 := le_i c_13
    have lc_13 : (60 : Int32).toInt = 60 := by decide
    refine lv_aload_n hx hb dX10_thinks_59 rfl (lv_at hl 1 rfl) ?_
    refine va_get (D := (dC, dI)) (ci := 10) (v := .ref (b 5)) (C := RX10) (T := TX10) (N := 51) hx hb hts inw_X10_thinks_10 hown hK hP 0 rfl rfl 5 (by decide) (hts (.fieldLink RX10 13 "VatHouseModel" "food" "[I") (List.mem_of_getElem? (i := 5) (by exact rfl))) (fun _ h9 => h9) rfl dX10_thinks_60 ?_
    refine lv_iload_n hx hb dX10_thinks_63 rfl (lv_at hl 3 rfl) ?_
    refine lv_dup2_11 hx hb dX10_thinks_64 rfl rfl ?_
    refine va_iald hx hb hK hP 2 1 rfl rfl (by assumption) dX10_thinks_65 ?_
    refine lv_topi (fun z_14 ez_14 => ?_)
    have ez_14 : z_14 = (a 5) vv.toNatClampNeg := ez_14
    refine lv_iload_n hx hb dX10_thinks_66 rfl (lv_at hl 4 rfl) ?_
    refine lv_isub hx hb dX10_thinks_67 ?_
    refine lv_topi (fun z_15 ez_15 => ?_)
    refine va_iast hx hb hK hP hD hS 2 1 rfl rfl (by assumption) dX10_thinks_68 (fun H locs hP hD hS => ?_)
    have hP : va_P (dC, dI) vwCl (mw g h0 b i (va_up (va_up (va_up (va_up a 4 f_5) 5 (upd (a 5) vv.toNatClampNeg z_15)) 6 f_11) 14 f_8)) _ := hP
    have hD : va_D _ (mw g h0 b i (va_up (va_up (va_up (va_up a 4 f_5) 5 (upd (a 5) vv.toNatClampNeg z_15)) 6 f_11) 14 f_8)) := hD
    obtain ⟨f_16, ef_16⟩ : ∃ z, z = (upd (a 5) vv.toNatClampNeg z_15) := ⟨_, rfl⟩
    rw [← ef_16] at hP hD
    refine lv_aload_n hx hb dX10_thinks_69 rfl (lv_at hl 1 rfl) ?_
    refine va_get (D := (dC, dI)) (ci := 10) (v := .ref (b 5)) (C := RX10) (T := TX10) (N := 51) hx hb hts inw_X10_thinks_10 hown hK hP 0 rfl rfl 5 (by decide) (hts (.fieldLink RX10 13 "VatHouseModel" "food" "[I") (List.mem_of_getElem? (i := 5) (by exact rfl))) (fun _ h9 => h9) rfl dX10_thinks_70 ?_
    refine lv_iload_n hx hb dX10_thinks_73 rfl (lv_at hl 3 rfl) ?_
    refine va_iald hx hb hK hP 2 1 rfl rfl (by assumption) dX10_thinks_74 ?_
    refine lv_topi (fun z_17 ez_17 => ?_)
    have ez_17 : z_17 = f_16 vv.toNatClampNeg := ez_17
    refine lv_iconst (v := 1) hx hb dX10_thinks_75 (by decide) ?_
    refine lv_icmp_ge (tgt := 93) hx hb dX10_thinks_76 (by decide) (fun c_18 => ?_) (fun c_18 => ?_)
    · have nc_18 := le_i c_18
      have lc_18 : (1 : Int32).toInt = 1 := by decide
      refine lv_aload_n hx hb dX10_thinks_93 rfl (lv_at hl 1 rfl) ?_
      refine va_get (D := (dC, dI)) (ci := 10) (v := .ref (b 15)) (C := RX10) (T := TX10) (N := 51) hx hb hts inw_X10_thinks_10 hown hK hP 0 rfl rfl 15 (by decide) (hts (.fieldLink RX10 41 "VatHouseModel" "fast" "[I") (List.mem_of_getElem? (i := 6) (by exact rfl))) (fun _ h9 => h9) rfl dX10_thinks_94 ?_
      refine lv_iload_n hx hb dX10_thinks_97 rfl (lv_at hl 2 rfl) ?_
      refine lv_dup2_11 hx hb dX10_thinks_98 rfl rfl ?_
      refine va_iald hx hb hK hP 11 10 rfl rfl (by assumption) dX10_thinks_99 ?_
      refine lv_topi (fun z_19 ez_19 => ?_)
      have ez_19 : z_19 = (a 15) ck.toNatClampNeg := ez_19
      refine lv_aload_n hx hb dX10_thinks_100 rfl (lv_at hl 1 rfl) ?_
      refine va_get (D := (dC, dI)) (ci := 10) (v := .ref (b 14)) (C := RX10) (T := TX10) (N := 51) hx hb hts inw_X10_thinks_10 hown hK hP 0 rfl rfl 14 (by decide) (hts (.fieldLink RX10 38 "VatHouseModel" "loose" "[I") (List.mem_of_getElem? (i := 2) (by exact rfl))) (fun _ h9 => h9) rfl dX10_thinks_101 ?_
      refine lv_iload_n hx hb dX10_thinks_104 rfl (lv_at hl 2 rfl) ?_
      refine va_iald hx hb hK hP 10 9 rfl rfl (by assumption) dX10_thinks_105 ?_
      refine lv_topi (fun z_20 ez_20 => ?_)
      have ez_20 : z_20 = f_8 ck.toNatClampNeg := ez_20
      refine lv_aload_n hx hb dX10_thinks_106 rfl (lv_at hl 1 rfl) ?_
      refine va_get (D := (dC, dI)) (ci := 10) (v := .ref (b 14)) (C := RX10) (T := TX10) (N := 51) hx hb hts inw_X10_thinks_10 hown hK hP 0 rfl rfl 14 (by decide) (hts (.fieldLink RX10 38 "VatHouseModel" "loose" "[I") (List.mem_of_getElem? (i := 2) (by exact rfl))) (fun _ h9 => h9) rfl dX10_thinks_107 ?_
      refine lv_iload_n hx hb dX10_thinks_110 rfl (lv_at hl 2 rfl) ?_
      refine va_iald hx hb hK hP 10 9 rfl rfl (by assumption) dX10_thinks_111 ?_
      refine lv_topi (fun z_21 ez_21 => ?_)
      have ez_21 : z_21 = f_8 ck.toNatClampNeg := ez_21
      refine lv_bipush (v := 8) hx hb dX10_thinks_112 (by decide) ?_
      refine lv_idiv hx hb dX10_thinks_114 (by decide) ?_
      refine lv_topi (fun z_22 ez_22 => ?_)
      refine lv_isub hx hb dX10_thinks_115 ?_
      refine lv_topi (fun z_23 ez_23 => ?_)
      refine lv_iadd hx hb dX10_thinks_116 ?_
      refine lv_topi (fun z_24 ez_24 => ?_)
      refine va_iast hx hb hK hP hD hS 11 10 rfl rfl (by assumption) dX10_thinks_117 (fun H locs hP hD hS => ?_)
      have hP : va_P (dC, dI) vwCl (mw g h0 b i (va_up (va_up (va_up (va_up (va_up a 4 f_5) 5 f_16) 6 f_11) 14 f_8) 15 (upd (a 15) ck.toNatClampNeg z_24))) _ := hP
      have hD : va_D _ (mw g h0 b i (va_up (va_up (va_up (va_up (va_up a 4 f_5) 5 f_16) 6 f_11) 14 f_8) 15 (upd (a 15) ck.toNatClampNeg z_24))) := hD
      obtain ⟨f_25, ef_25⟩ : ∃ z, z = (upd (a 15) ck.toNatClampNeg z_24) := ⟨_, rfl⟩
      rw [← ef_25] at hP hD
      refine lv_aload_n hx hb dX10_thinks_118 rfl (lv_at hl 1 rfl) ?_
      refine va_get (D := (dC, dI)) (ci := 10) (v := .ref (b 14)) (C := RX10) (T := TX10) (N := 51) hx hb hts inw_X10_thinks_10 hown hK hP 0 rfl rfl 14 (by decide) (hts (.fieldLink RX10 38 "VatHouseModel" "loose" "[I") (List.mem_of_getElem? (i := 2) (by exact rfl))) (fun _ h9 => h9) rfl dX10_thinks_119 ?_
      refine lv_iload_n hx hb dX10_thinks_122 rfl (lv_at hl 2 rfl) ?_
      refine lv_iconst (v := 0) hx hb dX10_thinks_123 (by decide) ?_
      refine va_iast hx hb hK hP hD hS 10 9 rfl rfl (by assumption) dX10_thinks_124 (fun H locs hP hD hS => ?_)
      have hP : va_P (dC, dI) vwCl (mw g h0 b i (va_up (va_up (va_up (va_up (va_up a 4 f_5) 5 f_16) 6 f_11) 14 (upd f_8 ck.toNatClampNeg (0 : Int32))) 15 f_25)) _ := hP
      have hD : va_D _ (mw g h0 b i (va_up (va_up (va_up (va_up (va_up a 4 f_5) 5 f_16) 6 f_11) 14 (upd f_8 ck.toNatClampNeg (0 : Int32))) 15 f_25)) := hD
      obtain ⟨f_26, ef_26⟩ : ∃ z, z = (upd f_8 ck.toNatClampNeg (0 : Int32)) := ⟨_, rfl⟩
      rw [← ef_26] at hP hD
      exact M_v hx hb hr hlocks (f_5, f_16, f_11, (a 7), f_26, f_25) hP hD hK hS ⟨rfl, ⟨(by have c_139 := c_13; (try simp only [ez_2, ez_3, ez_4, ef_5, ez_6, ez_7, ef_8, ez_9, ez_10, ef_11, ez_12, ez_14, ez_15, ef_16, ez_17, ez_19, ez_20, ez_21, ez_22, ez_23, ez_24, ef_25, ef_26, upd_at, upd_upd, upd_id] at c_139); have c_189 := c_18; (try simp only [ez_2, ez_3, ez_4, ef_5, ez_6, ez_7, ef_8, ez_9, ez_10, ef_11, ez_12, ez_14, ez_15, ef_16, ez_17, ez_19, ez_20, ez_21, ez_22, ez_23, ez_24, ef_25, ef_26, upd_at, upd_upd, upd_id] at c_189); simp only [ez_2, ez_3, ez_4, ef_5, ez_6, ez_7, ef_8, ez_9, ez_10, ef_11, ez_12, ez_14, ez_15, ef_16, ez_17, ez_19, ez_20, ez_21, ez_22, ez_23, ez_24, ef_25, ef_26, upd_at, upd_upd, upd_id, if_pos c_139, if_pos c_189, upd_upd, upd_id]), (by have c_139 := c_13; (try simp only [ez_2, ez_3, ez_4, ef_5, ez_6, ez_7, ef_8, ez_9, ez_10, ef_11, ez_12, ez_14, ez_15, ef_16, ez_17, ez_19, ez_20, ez_21, ez_22, ez_23, ez_24, ef_25, ef_26, upd_at, upd_upd, upd_id] at c_139); have c_189 := c_18; (try simp only [ez_2, ez_3, ez_4, ef_5, ez_6, ez_7, ef_8, ez_9, ez_10, ef_11, ez_12, ez_14, ez_15, ef_16, ez_17, ez_19, ez_20, ez_21, ez_22, ez_23, ez_24, ef_25, ef_26, upd_at, upd_upd, upd_id] at c_189); simp only [skF, ez_2, ez_3, ez_4, ef_5, ez_6, ez_7, ef_8, ez_9, ez_10, ef_11, ez_12, ez_14, ez_15, ef_16, ez_17, ez_19, ez_20, ez_21, ez_22, ez_23, ez_24, ef_25, ef_26, upd_at, upd_upd, upd_id, if_pos c_139, if_pos c_189, upd_upd, upd_id]), (by have c_139 := c_13; (try simp only [ez_2, ez_3, ez_4, ef_5, ez_6, ez_7, ef_8, ez_9, ez_10, ef_11, ez_12, ez_14, ez_15, ef_16, ez_17, ez_19, ez_20, ez_21, ez_22, ez_23, ez_24, ef_25, ef_26, upd_at, upd_upd, upd_id] at c_139); have c_189 := c_18; (try simp only [ez_2, ez_3, ez_4, ef_5, ez_6, ez_7, ef_8, ez_9, ez_10, ef_11, ez_12, ez_14, ez_15, ef_16, ez_17, ez_19, ez_20, ez_21, ez_22, ez_23, ez_24, ef_25, ef_26, upd_at, upd_upd, upd_id] at c_189); simp only [ez_2, ez_3, ez_4, ef_5, ez_6, ez_7, ef_8, ez_9, ez_10, ef_11, ez_12, ez_14, ez_15, ef_16, ez_17, ez_19, ez_20, ez_21, ez_22, ez_23, ez_24, ef_25, ef_26, upd_at, upd_upd, upd_id, if_pos c_139, if_pos c_189, upd_upd, upd_id]), (by have c_139 := c_13; (try simp only [ez_2, ez_3, ez_4, ef_5, ez_6, ez_7, ef_8, ez_9, ez_10, ef_11, ez_12, ez_14, ez_15, ef_16, ez_17, ez_19, ez_20, ez_21, ez_22, ez_23, ez_24, ef_25, ef_26, upd_at, upd_upd, upd_id] at c_139); have c_189 := c_18; (try simp only [ez_2, ez_3, ez_4, ef_5, ez_6, ez_7, ef_8, ez_9, ez_10, ef_11, ez_12, ez_14, ez_15, ef_16, ez_17, ez_19, ez_20, ez_21, ez_22, ez_23, ez_24, ef_25, ef_26, upd_at, upd_upd, upd_id] at c_189); simp only [skS, ez_2, ez_3, ez_4, ef_5, ez_6, ez_7, ef_8, ez_9, ez_10, ef_11, ez_12, ez_14, ez_15, ef_16, ez_17, ez_19, ez_20, ez_21, ez_22, ez_23, ez_24, ef_25, ef_26, upd_at, upd_upd, upd_id, if_pos c_139, if_pos c_189, upd_upd, upd_id]), (by have c_139 := c_13; (try simp only [ez_2, ez_3, ez_4, ef_5, ez_6, ez_7, ef_8, ez_9, ez_10, ef_11, ez_12, ez_14, ez_15, ef_16, ez_17, ez_19, ez_20, ez_21, ez_22, ez_23, ez_24, ef_25, ef_26, upd_at, upd_upd, upd_id] at c_139); have c_189 := c_18; (try simp only [ez_2, ez_3, ez_4, ef_5, ez_6, ez_7, ef_8, ez_9, ez_10, ef_11, ez_12, ez_14, ez_15, ef_16, ez_17, ez_19, ez_20, ez_21, ez_22, ez_23, ez_24, ef_25, ef_26, upd_at, upd_upd, upd_id] at c_189); simp only [ez_2, ez_3, ez_4, ef_5, ez_6, ez_7, ef_8, ez_9, ez_10, ef_11, ez_12, ez_14, ez_15, ef_16, ez_17, ez_19, ez_20, ez_21, ez_22, ez_23, ez_24, ef_25, ef_26, upd_at, upd_upd, upd_id, if_pos c_139, if_pos c_189, upd_upd, upd_id]), (by have c_139 := c_13; (try simp only [ez_2, ez_3, ez_4, ef_5, ez_6, ez_7, ef_8, ez_9, ez_10, ef_11, ez_12, ez_14, ez_15, ef_16, ez_17, ez_19, ez_20, ez_21, ez_22, ez_23, ez_24, ef_25, ef_26, upd_at, upd_upd, upd_id] at c_139); have c_189 := c_18; (try simp only [ez_2, ez_3, ez_4, ef_5, ez_6, ez_7, ef_8, ez_9, ez_10, ef_11, ez_12, ez_14, ez_15, ef_16, ez_17, ez_19, ez_20, ez_21, ez_22, ez_23, ez_24, ef_25, ef_26, upd_at, upd_upd, upd_id] at c_189); simp only [ez_2, ez_3, ez_4, ef_5, ez_6, ez_7, ef_8, ez_9, ez_10, ef_11, ez_12, ez_14, ez_15, ef_16, ez_17, ez_19, ez_20, ez_21, ez_22, ez_23, ez_24, ef_25, ef_26, upd_at, upd_upd, upd_id, if_pos c_139, if_pos c_189, upd_upd, upd_id])⟩⟩ (Nat.le_of_ble_eq_true rfl) (Nat.le_of_ble_eq_true rfl) dX10_thinks_125
    · have nc_18 := nle_i c_18
      have lc_18 : (1 : Int32).toInt = 1 := by decide
      refine lv_aload_n hx hb dX10_thinks_79 rfl (lv_at hl 1 rfl) ?_
      refine va_get (D := (dC, dI)) (ci := 10) (v := .ref (b 5)) (C := RX10) (T := TX10) (N := 51) hx hb hts inw_X10_thinks_10 hown hK hP 0 rfl rfl 5 (by decide) (hts (.fieldLink RX10 13 "VatHouseModel" "food" "[I") (List.mem_of_getElem? (i := 5) (by exact rfl))) (fun _ h9 => h9) rfl dX10_thinks_80 ?_
      refine lv_iload_n hx hb dX10_thinks_83 rfl (lv_at hl 3 rfl) ?_
      refine lv_iconst (v := 0) hx hb dX10_thinks_84 (by decide) ?_
      refine va_iast hx hb hK hP hD hS 2 1 rfl rfl (by assumption) dX10_thinks_85 (fun H locs hP hD hS => ?_)
      have hP : va_P (dC, dI) vwCl (mw g h0 b i (va_up (va_up (va_up (va_up a 4 f_5) 5 (upd f_16 vv.toNatClampNeg (0 : Int32))) 6 f_11) 14 f_8)) _ := hP
      have hD : va_D _ (mw g h0 b i (va_up (va_up (va_up (va_up a 4 f_5) 5 (upd f_16 vv.toNatClampNeg (0 : Int32))) 6 f_11) 14 f_8)) := hD
      obtain ⟨f_27, ef_27⟩ : ∃ z, z = (upd f_16 vv.toNatClampNeg (0 : Int32)) := ⟨_, rfl⟩
      rw [← ef_27] at hP hD
      refine lv_aload_n hx hb dX10_thinks_86 rfl (lv_at hl 1 rfl) ?_
      refine va_get (D := (dC, dI)) (ci := 10) (v := .ref (b 7)) (C := RX10) (T := TX10) (N := 51) hx hb hts inw_X10_thinks_10 hown hK hP 0 rfl rfl 7 (by decide) (hts (.fieldLink RX10 19 "VatHouseModel" "state" "[I") (List.mem_of_getElem? (i := 4) (by exact rfl))) (fun _ h9 => h9) rfl dX10_thinks_87 ?_
      refine lv_iload_n hx hb dX10_thinks_90 rfl (lv_at hl 3 rfl) ?_
      refine lv_iconst (v := 2) hx hb dX10_thinks_91 (by decide) ?_
      refine va_iast hx hb hK hP hD hS 4 3 rfl rfl (by assumption) dX10_thinks_92 (fun H locs hP hD hS => ?_)
      have hP : va_P (dC, dI) vwCl (mw g h0 b i (va_up (va_up (va_up (va_up (va_up a 4 f_5) 5 f_27) 6 f_11) 7 (upd (a 7) vv.toNatClampNeg (2 : Int32))) 14 f_8)) _ := hP
      have hD : va_D _ (mw g h0 b i (va_up (va_up (va_up (va_up (va_up a 4 f_5) 5 f_27) 6 f_11) 7 (upd (a 7) vv.toNatClampNeg (2 : Int32))) 14 f_8)) := hD
      obtain ⟨f_28, ef_28⟩ : ∃ z, z = (upd (a 7) vv.toNatClampNeg (2 : Int32)) := ⟨_, rfl⟩
      rw [← ef_28] at hP hD
      refine lv_aload_n hx hb dX10_thinks_93 rfl (lv_at hl 1 rfl) ?_
      refine va_get (D := (dC, dI)) (ci := 10) (v := .ref (b 15)) (C := RX10) (T := TX10) (N := 51) hx hb hts inw_X10_thinks_10 hown hK hP 0 rfl rfl 15 (by decide) (hts (.fieldLink RX10 41 "VatHouseModel" "fast" "[I") (List.mem_of_getElem? (i := 6) (by exact rfl))) (fun _ h9 => h9) rfl dX10_thinks_94 ?_
      refine lv_iload_n hx hb dX10_thinks_97 rfl (lv_at hl 2 rfl) ?_
      refine lv_dup2_11 hx hb dX10_thinks_98 rfl rfl ?_
      refine va_iald hx hb hK hP 11 10 rfl rfl (by assumption) dX10_thinks_99 ?_
      refine lv_topi (fun z_29 ez_29 => ?_)
      have ez_29 : z_29 = (a 15) ck.toNatClampNeg := ez_29
      refine lv_aload_n hx hb dX10_thinks_100 rfl (lv_at hl 1 rfl) ?_
      refine va_get (D := (dC, dI)) (ci := 10) (v := .ref (b 14)) (C := RX10) (T := TX10) (N := 51) hx hb hts inw_X10_thinks_10 hown hK hP 0 rfl rfl 14 (by decide) (hts (.fieldLink RX10 38 "VatHouseModel" "loose" "[I") (List.mem_of_getElem? (i := 2) (by exact rfl))) (fun _ h9 => h9) rfl dX10_thinks_101 ?_
      refine lv_iload_n hx hb dX10_thinks_104 rfl (lv_at hl 2 rfl) ?_
      refine va_iald hx hb hK hP 10 9 rfl rfl (by assumption) dX10_thinks_105 ?_
      refine lv_topi (fun z_30 ez_30 => ?_)
      have ez_30 : z_30 = f_8 ck.toNatClampNeg := ez_30
      refine lv_aload_n hx hb dX10_thinks_106 rfl (lv_at hl 1 rfl) ?_
      refine va_get (D := (dC, dI)) (ci := 10) (v := .ref (b 14)) (C := RX10) (T := TX10) (N := 51) hx hb hts inw_X10_thinks_10 hown hK hP 0 rfl rfl 14 (by decide) (hts (.fieldLink RX10 38 "VatHouseModel" "loose" "[I") (List.mem_of_getElem? (i := 2) (by exact rfl))) (fun _ h9 => h9) rfl dX10_thinks_107 ?_
      refine lv_iload_n hx hb dX10_thinks_110 rfl (lv_at hl 2 rfl) ?_
      refine va_iald hx hb hK hP 10 9 rfl rfl (by assumption) dX10_thinks_111 ?_
      refine lv_topi (fun z_31 ez_31 => ?_)
      have ez_31 : z_31 = f_8 ck.toNatClampNeg := ez_31
      refine lv_bipush (v := 8) hx hb dX10_thinks_112 (by decide) ?_
      refine lv_idiv hx hb dX10_thinks_114 (by decide) ?_
      refine lv_topi (fun z_32 ez_32 => ?_)
      refine lv_isub hx hb dX10_thinks_115 ?_
      refine lv_topi (fun z_33 ez_33 => ?_)
      refine lv_iadd hx hb dX10_thinks_116 ?_
      refine lv_topi (fun z_34 ez_34 => ?_)
      refine va_iast hx hb hK hP hD hS 11 10 rfl rfl (by assumption) dX10_thinks_117 (fun H locs hP hD hS => ?_)
      have hP : va_P (dC, dI) vwCl (mw g h0 b i (va_up (va_up (va_up (va_up (va_up (va_up a 4 f_5) 5 f_27) 6 f_11) 7 f_28) 14 f_8) 15 (upd (a 15) ck.toNatClampNeg z_34))) _ := hP
      have hD : va_D _ (mw g h0 b i (va_up (va_up (va_up (va_up (va_up (va_up a 4 f_5) 5 f_27) 6 f_11) 7 f_28) 14 f_8) 15 (upd (a 15) ck.toNatClampNeg z_34))) := hD
      obtain ⟨f_35, ef_35⟩ : ∃ z, z = (upd (a 15) ck.toNatClampNeg z_34) := ⟨_, rfl⟩
      rw [← ef_35] at hP hD
      refine lv_aload_n hx hb dX10_thinks_118 rfl (lv_at hl 1 rfl) ?_
      refine va_get (D := (dC, dI)) (ci := 10) (v := .ref (b 14)) (C := RX10) (T := TX10) (N := 51) hx hb hts inw_X10_thinks_10 hown hK hP 0 rfl rfl 14 (by decide) (hts (.fieldLink RX10 38 "VatHouseModel" "loose" "[I") (List.mem_of_getElem? (i := 2) (by exact rfl))) (fun _ h9 => h9) rfl dX10_thinks_119 ?_
      refine lv_iload_n hx hb dX10_thinks_122 rfl (lv_at hl 2 rfl) ?_
      refine lv_iconst (v := 0) hx hb dX10_thinks_123 (by decide) ?_
      refine va_iast hx hb hK hP hD hS 10 9 rfl rfl (by assumption) dX10_thinks_124 (fun H locs hP hD hS => ?_)
      have hP : va_P (dC, dI) vwCl (mw g h0 b i (va_up (va_up (va_up (va_up (va_up (va_up a 4 f_5) 5 f_27) 6 f_11) 7 f_28) 14 (upd f_8 ck.toNatClampNeg (0 : Int32))) 15 f_35)) _ := hP
      have hD : va_D _ (mw g h0 b i (va_up (va_up (va_up (va_up (va_up (va_up a 4 f_5) 5 f_27) 6 f_11) 7 f_28) 14 (upd f_8 ck.toNatClampNeg (0 : Int32))) 15 f_35)) := hD
      obtain ⟨f_36, ef_36⟩ : ∃ z, z = (upd f_8 ck.toNatClampNeg (0 : Int32)) := ⟨_, rfl⟩
      rw [← ef_36] at hP hD
      exact M_v hx hb hr hlocks (f_5, f_27, f_11, f_28, f_36, f_35) hP hD hK hS ⟨rfl, ⟨(by have c_139 := c_13; (try simp only [ez_2, ez_3, ez_4, ef_5, ez_6, ez_7, ef_8, ez_9, ez_10, ef_11, ez_12, ez_14, ez_15, ef_16, ez_17, ef_27, ef_28, ez_29, ez_30, ez_31, ez_32, ez_33, ez_34, ef_35, ef_36, upd_at, upd_upd, upd_id] at c_139); have c_189 := c_18; (try simp only [ez_2, ez_3, ez_4, ef_5, ez_6, ez_7, ef_8, ez_9, ez_10, ef_11, ez_12, ez_14, ez_15, ef_16, ez_17, ef_27, ef_28, ez_29, ez_30, ez_31, ez_32, ez_33, ez_34, ef_35, ef_36, upd_at, upd_upd, upd_id] at c_189); simp only [ez_2, ez_3, ez_4, ef_5, ez_6, ez_7, ef_8, ez_9, ez_10, ef_11, ez_12, ez_14, ez_15, ef_16, ez_17, ef_27, ef_28, ez_29, ez_30, ez_31, ez_32, ez_33, ez_34, ef_35, ef_36, upd_at, upd_upd, upd_id, if_pos c_139, if_neg c_189, upd_upd, upd_id]), (by have c_139 := c_13; (try simp only [ez_2, ez_3, ez_4, ef_5, ez_6, ez_7, ef_8, ez_9, ez_10, ef_11, ez_12, ez_14, ez_15, ef_16, ez_17, ef_27, ef_28, ez_29, ez_30, ez_31, ez_32, ez_33, ez_34, ef_35, ef_36, upd_at, upd_upd, upd_id] at c_139); have c_189 := c_18; (try simp only [ez_2, ez_3, ez_4, ef_5, ez_6, ez_7, ef_8, ez_9, ez_10, ef_11, ez_12, ez_14, ez_15, ef_16, ez_17, ef_27, ef_28, ez_29, ez_30, ez_31, ez_32, ez_33, ez_34, ef_35, ef_36, upd_at, upd_upd, upd_id] at c_189); simp only [skF, ez_2, ez_3, ez_4, ef_5, ez_6, ez_7, ef_8, ez_9, ez_10, ef_11, ez_12, ez_14, ez_15, ef_16, ez_17, ef_27, ef_28, ez_29, ez_30, ez_31, ez_32, ez_33, ez_34, ef_35, ef_36, upd_at, upd_upd, upd_id, if_pos c_139, if_neg c_189, upd_upd, upd_id]), (by have c_139 := c_13; (try simp only [ez_2, ez_3, ez_4, ef_5, ez_6, ez_7, ef_8, ez_9, ez_10, ef_11, ez_12, ez_14, ez_15, ef_16, ez_17, ef_27, ef_28, ez_29, ez_30, ez_31, ez_32, ez_33, ez_34, ef_35, ef_36, upd_at, upd_upd, upd_id] at c_139); have c_189 := c_18; (try simp only [ez_2, ez_3, ez_4, ef_5, ez_6, ez_7, ef_8, ez_9, ez_10, ef_11, ez_12, ez_14, ez_15, ef_16, ez_17, ef_27, ef_28, ez_29, ez_30, ez_31, ez_32, ez_33, ez_34, ef_35, ef_36, upd_at, upd_upd, upd_id] at c_189); simp only [ez_2, ez_3, ez_4, ef_5, ez_6, ez_7, ef_8, ez_9, ez_10, ef_11, ez_12, ez_14, ez_15, ef_16, ez_17, ef_27, ef_28, ez_29, ez_30, ez_31, ez_32, ez_33, ez_34, ef_35, ef_36, upd_at, upd_upd, upd_id, if_pos c_139, if_neg c_189, upd_upd, upd_id]), (by have c_139 := c_13; (try simp only [ez_2, ez_3, ez_4, ef_5, ez_6, ez_7, ef_8, ez_9, ez_10, ef_11, ez_12, ez_14, ez_15, ef_16, ez_17, ef_27, ef_28, ez_29, ez_30, ez_31, ez_32, ez_33, ez_34, ef_35, ef_36, upd_at, upd_upd, upd_id] at c_139); have c_189 := c_18; (try simp only [ez_2, ez_3, ez_4, ef_5, ez_6, ez_7, ef_8, ez_9, ez_10, ef_11, ez_12, ez_14, ez_15, ef_16, ez_17, ef_27, ef_28, ez_29, ez_30, ez_31, ez_32, ez_33, ez_34, ef_35, ef_36, upd_at, upd_upd, upd_id] at c_189); simp only [skS, ez_2, ez_3, ez_4, ef_5, ez_6, ez_7, ef_8, ez_9, ez_10, ef_11, ez_12, ez_14, ez_15, ef_16, ez_17, ef_27, ef_28, ez_29, ez_30, ez_31, ez_32, ez_33, ez_34, ef_35, ef_36, upd_at, upd_upd, upd_id, if_pos c_139, if_neg c_189, upd_upd, upd_id]), (by have c_139 := c_13; (try simp only [ez_2, ez_3, ez_4, ef_5, ez_6, ez_7, ef_8, ez_9, ez_10, ef_11, ez_12, ez_14, ez_15, ef_16, ez_17, ef_27, ef_28, ez_29, ez_30, ez_31, ez_32, ez_33, ez_34, ef_35, ef_36, upd_at, upd_upd, upd_id] at c_139); have c_189 := c_18; (try simp only [ez_2, ez_3, ez_4, ef_5, ez_6, ez_7, ef_8, ez_9, ez_10, ef_11, ez_12, ez_14, ez_15, ef_16, ez_17, ef_27, ef_28, ez_29, ez_30, ez_31, ez_32, ez_33, ez_34, ef_35, ef_36, upd_at, upd_upd, upd_id] at c_189); simp only [ez_2, ez_3, ez_4, ef_5, ez_6, ez_7, ef_8, ez_9, ez_10, ef_11, ez_12, ez_14, ez_15, ef_16, ez_17, ef_27, ef_28, ez_29, ez_30, ez_31, ez_32, ez_33, ez_34, ef_35, ef_36, upd_at, upd_upd, upd_id, if_pos c_139, if_neg c_189, upd_upd, upd_id]), (by have c_139 := c_13; (try simp only [ez_2, ez_3, ez_4, ef_5, ez_6, ez_7, ef_8, ez_9, ez_10, ef_11, ez_12, ez_14, ez_15, ef_16, ez_17, ef_27, ef_28, ez_29, ez_30, ez_31, ez_32, ez_33, ez_34, ef_35, ef_36, upd_at, upd_upd, upd_id] at c_139); have c_189 := c_18; (try simp only [ez_2, ez_3, ez_4, ef_5, ez_6, ez_7, ef_8, ez_9, ez_10, ef_11, ez_12, ez_14, ez_15, ef_16, ez_17, ef_27, ef_28, ez_29, ez_30, ez_31, ez_32, ez_33, ez_34, ef_35, ef_36, upd_at, upd_upd, upd_id] at c_189); simp only [ez_2, ez_3, ez_4, ef_5, ez_6, ez_7, ef_8, ez_9, ez_10, ef_11, ez_12, ez_14, ez_15, ef_16, ez_17, ef_27, ef_28, ez_29, ez_30, ez_31, ez_32, ez_33, ez_34, ef_35, ef_36, upd_at, upd_upd, upd_id, if_pos c_139, if_neg c_189, upd_upd, upd_id])⟩⟩ (Nat.le_of_ble_eq_true rfl) (Nat.le_of_ble_eq_true rfl) dX10_thinks_125
  · have nc_13 := nle_i c_13
    have lc_13 : (60 : Int32).toInt = 60 := by decide
    refine lv_aload_n hx hb dX10_thinks_52 rfl (lv_at hl 1 rfl) ?_
    refine va_get (D := (dC, dI)) (ci := 10) (v := .ref (b 7)) (C := RX10) (T := TX10) (N := 51) hx hb hts inw_X10_thinks_10 hown hK hP 0 rfl rfl 7 (by decide) (hts (.fieldLink RX10 19 "VatHouseModel" "state" "[I") (List.mem_of_getElem? (i := 4) (by exact rfl))) (fun _ h9 => h9) rfl dX10_thinks_53 ?_
    refine lv_iload_n hx hb dX10_thinks_56 rfl (lv_at hl 3 rfl) ?_
    refine lv_iconst (v := 1) hx hb dX10_thinks_57 (by decide) ?_
    refine va_iast hx hb hK hP hD hS 4 3 rfl rfl (by assumption) dX10_thinks_58 (fun H locs hP hD hS => ?_)
    have hP : va_P (dC, dI) vwCl (mw g h0 b i (va_up (va_up (va_up (va_up a 4 f_5) 6 f_11) 7 (upd (a 7) vv.toNatClampNeg (1 : Int32))) 14 f_8)) _ := hP
    have hD : va_D _ (mw g h0 b i (va_up (va_up (va_up (va_up a 4 f_5) 6 f_11) 7 (upd (a 7) vv.toNatClampNeg (1 : Int32))) 14 f_8)) := hD
    obtain ⟨f_37, ef_37⟩ : ∃ z, z = (upd (a 7) vv.toNatClampNeg (1 : Int32)) := ⟨_, rfl⟩
    rw [← ef_37] at hP hD
    refine lv_aload_n hx hb dX10_thinks_59 rfl (lv_at hl 1 rfl) ?_
    refine va_get (D := (dC, dI)) (ci := 10) (v := .ref (b 5)) (C := RX10) (T := TX10) (N := 51) hx hb hts inw_X10_thinks_10 hown hK hP 0 rfl rfl 5 (by decide) (hts (.fieldLink RX10 13 "VatHouseModel" "food" "[I") (List.mem_of_getElem? (i := 5) (by exact rfl))) (fun _ h9 => h9) rfl dX10_thinks_60 ?_
    refine lv_iload_n hx hb dX10_thinks_63 rfl (lv_at hl 3 rfl) ?_
    refine lv_dup2_11 hx hb dX10_thinks_64 rfl rfl ?_
    refine va_iald hx hb hK hP 2 1 rfl rfl (by assumption) dX10_thinks_65 ?_
    refine lv_topi (fun z_38 ez_38 => ?_)
    have ez_38 : z_38 = (a 5) vv.toNatClampNeg := ez_38
    refine lv_iload_n hx hb dX10_thinks_66 rfl (lv_at hl 4 rfl) ?_
    refine lv_isub hx hb dX10_thinks_67 ?_
    refine lv_topi (fun z_39 ez_39 => ?_)
    refine va_iast hx hb hK hP hD hS 2 1 rfl rfl (by assumption) dX10_thinks_68 (fun H locs hP hD hS => ?_)
    have hP : va_P (dC, dI) vwCl (mw g h0 b i (va_up (va_up (va_up (va_up (va_up a 4 f_5) 5 (upd (a 5) vv.toNatClampNeg z_39)) 6 f_11) 7 f_37) 14 f_8)) _ := hP
    have hD : va_D _ (mw g h0 b i (va_up (va_up (va_up (va_up (va_up a 4 f_5) 5 (upd (a 5) vv.toNatClampNeg z_39)) 6 f_11) 7 f_37) 14 f_8)) := hD
    obtain ⟨f_40, ef_40⟩ : ∃ z, z = (upd (a 5) vv.toNatClampNeg z_39) := ⟨_, rfl⟩
    rw [← ef_40] at hP hD
    refine lv_aload_n hx hb dX10_thinks_69 rfl (lv_at hl 1 rfl) ?_
    refine va_get (D := (dC, dI)) (ci := 10) (v := .ref (b 5)) (C := RX10) (T := TX10) (N := 51) hx hb hts inw_X10_thinks_10 hown hK hP 0 rfl rfl 5 (by decide) (hts (.fieldLink RX10 13 "VatHouseModel" "food" "[I") (List.mem_of_getElem? (i := 5) (by exact rfl))) (fun _ h9 => h9) rfl dX10_thinks_70 ?_
    refine lv_iload_n hx hb dX10_thinks_73 rfl (lv_at hl 3 rfl) ?_
    refine va_iald hx hb hK hP 2 1 rfl rfl (by assumption) dX10_thinks_74 ?_
    refine lv_topi (fun z_41 ez_41 => ?_)
    have ez_41 : z_41 = f_40 vv.toNatClampNeg := ez_41
    refine lv_iconst (v := 1) hx hb dX10_thinks_75 (by decide) ?_
    refine lv_icmp_ge (tgt := 93) hx hb dX10_thinks_76 (by decide) (fun c_42 => ?_) (fun c_42 => ?_)
    · have nc_42 := le_i c_42
      have lc_42 : (1 : Int32).toInt = 1 := by decide
      refine lv_aload_n hx hb dX10_thinks_93 rfl (lv_at hl 1 rfl) ?_
      refine va_get (D := (dC, dI)) (ci := 10) (v := .ref (b 15)) (C := RX10) (T := TX10) (N := 51) hx hb hts inw_X10_thinks_10 hown hK hP 0 rfl rfl 15 (by decide) (hts (.fieldLink RX10 41 "VatHouseModel" "fast" "[I") (List.mem_of_getElem? (i := 6) (by exact rfl))) (fun _ h9 => h9) rfl dX10_thinks_94 ?_
      refine lv_iload_n hx hb dX10_thinks_97 rfl (lv_at hl 2 rfl) ?_
      refine lv_dup2_11 hx hb dX10_thinks_98 rfl rfl ?_
      refine va_iald hx hb hK hP 11 10 rfl rfl (by assumption) dX10_thinks_99 ?_
      refine lv_topi (fun z_43 ez_43 => ?_)
      have ez_43 : z_43 = (a 15) ck.toNatClampNeg := ez_43
      refine lv_aload_n hx hb dX10_thinks_100 rfl (lv_at hl 1 rfl) ?_
      refine va_get (D := (dC, dI)) (ci := 10) (v := .ref (b 14)) (C := RX10) (T := TX10) (N := 51) hx hb hts inw_X10_thinks_10 hown hK hP 0 rfl rfl 14 (by decide) (hts (.fieldLink RX10 38 "VatHouseModel" "loose" "[I") (List.mem_of_getElem? (i := 2) (by exact rfl))) (fun _ h9 => h9) rfl dX10_thinks_101 ?_
      refine lv_iload_n hx hb dX10_thinks_104 rfl (lv_at hl 2 rfl) ?_
      refine va_iald hx hb hK hP 10 9 rfl rfl (by assumption) dX10_thinks_105 ?_
      refine lv_topi (fun z_44 ez_44 => ?_)
      have ez_44 : z_44 = f_8 ck.toNatClampNeg := ez_44
      refine lv_aload_n hx hb dX10_thinks_106 rfl (lv_at hl 1 rfl) ?_
      refine va_get (D := (dC, dI)) (ci := 10) (v := .ref (b 14)) (C := RX10) (T := TX10) (N := 51) hx hb hts inw_X10_thinks_10 hown hK hP 0 rfl rfl 14 (by decide) (hts (.fieldLink RX10 38 "VatHouseModel" "loose" "[I") (List.mem_of_getElem? (i := 2) (by exact rfl))) (fun _ h9 => h9) rfl dX10_thinks_107 ?_
      refine lv_iload_n hx hb dX10_thinks_110 rfl (lv_at hl 2 rfl) ?_
      refine va_iald hx hb hK hP 10 9 rfl rfl (by assumption) dX10_thinks_111 ?_
      refine lv_topi (fun z_45 ez_45 => ?_)
      have ez_45 : z_45 = f_8 ck.toNatClampNeg := ez_45
      refine lv_bipush (v := 8) hx hb dX10_thinks_112 (by decide) ?_
      refine lv_idiv hx hb dX10_thinks_114 (by decide) ?_
      refine lv_topi (fun z_46 ez_46 => ?_)
      refine lv_isub hx hb dX10_thinks_115 ?_
      refine lv_topi (fun z_47 ez_47 => ?_)
      refine lv_iadd hx hb dX10_thinks_116 ?_
      refine lv_topi (fun z_48 ez_48 => ?_)
      refine va_iast hx hb hK hP hD hS 11 10 rfl rfl (by assumption) dX10_thinks_117 (fun H locs hP hD hS => ?_)
      have hP : va_P (dC, dI) vwCl (mw g h0 b i (va_up (va_up (va_up (va_up (va_up (va_up a 4 f_5) 5 f_40) 6 f_11) 7 f_37) 14 f_8) 15 (upd (a 15) ck.toNatClampNeg z_48))) _ := hP
      have hD : va_D _ (mw g h0 b i (va_up (va_up (va_up (va_up (va_up (va_up a 4 f_5) 5 f_40) 6 f_11) 7 f_37) 14 f_8) 15 (upd (a 15) ck.toNatClampNeg z_48))) := hD
      obtain ⟨f_49, ef_49⟩ : ∃ z, z = (upd (a 15) ck.toNatClampNeg z_48) := ⟨_, rfl⟩
      rw [← ef_49] at hP hD
      refine lv_aload_n hx hb dX10_thinks_118 rfl (lv_at hl 1 rfl) ?_
      refine va_get (D := (dC, dI)) (ci := 10) (v := .ref (b 14)) (C := RX10) (T := TX10) (N := 51) hx hb hts inw_X10_thinks_10 hown hK hP 0 rfl rfl 14 (by decide) (hts (.fieldLink RX10 38 "VatHouseModel" "loose" "[I") (List.mem_of_getElem? (i := 2) (by exact rfl))) (fun _ h9 => h9) rfl dX10_thinks_119 ?_
      refine lv_iload_n hx hb dX10_thinks_122 rfl (lv_at hl 2 rfl) ?_
      refine lv_iconst (v := 0) hx hb dX10_thinks_123 (by decide) ?_
      refine va_iast hx hb hK hP hD hS 10 9 rfl rfl (by assumption) dX10_thinks_124 (fun H locs hP hD hS => ?_)
      have hP : va_P (dC, dI) vwCl (mw g h0 b i (va_up (va_up (va_up (va_up (va_up (va_up a 4 f_5) 5 f_40) 6 f_11) 7 f_37) 14 (upd f_8 ck.toNatClampNeg (0 : Int32))) 15 f_49)) _ := hP
      have hD : va_D _ (mw g h0 b i (va_up (va_up (va_up (va_up (va_up (va_up a 4 f_5) 5 f_40) 6 f_11) 7 f_37) 14 (upd f_8 ck.toNatClampNeg (0 : Int32))) 15 f_49)) := hD
      obtain ⟨f_50, ef_50⟩ : ∃ z, z = (upd f_8 ck.toNatClampNeg (0 : Int32)) := ⟨_, rfl⟩
      rw [← ef_50] at hP hD
      exact M_v hx hb hr hlocks (f_5, f_40, f_11, f_37, f_50, f_49) hP hD hK hS ⟨rfl, ⟨(by have c_139 := c_13; (try simp only [ez_2, ez_3, ez_4, ef_5, ez_6, ez_7, ef_8, ez_9, ez_10, ef_11, ez_12, ef_37, ez_38, ez_39, ef_40, ez_41, ez_43, ez_44, ez_45, ez_46, ez_47, ez_48, ef_49, ef_50, upd_at, upd_upd, upd_id] at c_139); have c_429 := c_42; (try simp only [ez_2, ez_3, ez_4, ef_5, ez_6, ez_7, ef_8, ez_9, ez_10, ef_11, ez_12, ef_37, ez_38, ez_39, ef_40, ez_41, ez_43, ez_44, ez_45, ez_46, ez_47, ez_48, ef_49, ef_50, upd_at, upd_upd, upd_id] at c_429); simp only [ez_2, ez_3, ez_4, ef_5, ez_6, ez_7, ef_8, ez_9, ez_10, ef_11, ez_12, ef_37, ez_38, ez_39, ef_40, ez_41, ez_43, ez_44, ez_45, ez_46, ez_47, ez_48, ef_49, ef_50, upd_at, upd_upd, upd_id, if_neg c_139, if_pos c_429, upd_upd, upd_id]), (by have c_139 := c_13; (try simp only [ez_2, ez_3, ez_4, ef_5, ez_6, ez_7, ef_8, ez_9, ez_10, ef_11, ez_12, ef_37, ez_38, ez_39, ef_40, ez_41, ez_43, ez_44, ez_45, ez_46, ez_47, ez_48, ef_49, ef_50, upd_at, upd_upd, upd_id] at c_139); have c_429 := c_42; (try simp only [ez_2, ez_3, ez_4, ef_5, ez_6, ez_7, ef_8, ez_9, ez_10, ef_11, ez_12, ef_37, ez_38, ez_39, ef_40, ez_41, ez_43, ez_44, ez_45, ez_46, ez_47, ez_48, ef_49, ef_50, upd_at, upd_upd, upd_id] at c_429); simp only [skF, ez_2, ez_3, ez_4, ef_5, ez_6, ez_7, ef_8, ez_9, ez_10, ef_11, ez_12, ef_37, ez_38, ez_39, ef_40, ez_41, ez_43, ez_44, ez_45, ez_46, ez_47, ez_48, ef_49, ef_50, upd_at, upd_upd, upd_id, if_neg c_139, if_pos c_429, upd_upd, upd_id]), (by have c_139 := c_13; (try simp only [ez_2, ez_3, ez_4, ef_5, ez_6, ez_7, ef_8, ez_9, ez_10, ef_11, ez_12, ef_37, ez_38, ez_39, ef_40, ez_41, ez_43, ez_44, ez_45, ez_46, ez_47, ez_48, ef_49, ef_50, upd_at, upd_upd, upd_id] at c_139); have c_429 := c_42; (try simp only [ez_2, ez_3, ez_4, ef_5, ez_6, ez_7, ef_8, ez_9, ez_10, ef_11, ez_12, ef_37, ez_38, ez_39, ef_40, ez_41, ez_43, ez_44, ez_45, ez_46, ez_47, ez_48, ef_49, ef_50, upd_at, upd_upd, upd_id] at c_429); simp only [ez_2, ez_3, ez_4, ef_5, ez_6, ez_7, ef_8, ez_9, ez_10, ef_11, ez_12, ef_37, ez_38, ez_39, ef_40, ez_41, ez_43, ez_44, ez_45, ez_46, ez_47, ez_48, ef_49, ef_50, upd_at, upd_upd, upd_id, if_neg c_139, if_pos c_429, upd_upd, upd_id]), (by have c_139 := c_13; (try simp only [ez_2, ez_3, ez_4, ef_5, ez_6, ez_7, ef_8, ez_9, ez_10, ef_11, ez_12, ef_37, ez_38, ez_39, ef_40, ez_41, ez_43, ez_44, ez_45, ez_46, ez_47, ez_48, ef_49, ef_50, upd_at, upd_upd, upd_id] at c_139); have c_429 := c_42; (try simp only [ez_2, ez_3, ez_4, ef_5, ez_6, ez_7, ef_8, ez_9, ez_10, ef_11, ez_12, ef_37, ez_38, ez_39, ef_40, ez_41, ez_43, ez_44, ez_45, ez_46, ez_47, ez_48, ef_49, ef_50, upd_at, upd_upd, upd_id] at c_429); simp only [skS, ez_2, ez_3, ez_4, ef_5, ez_6, ez_7, ef_8, ez_9, ez_10, ef_11, ez_12, ef_37, ez_38, ez_39, ef_40, ez_41, ez_43, ez_44, ez_45, ez_46, ez_47, ez_48, ef_49, ef_50, upd_at, upd_upd, upd_id, if_neg c_139, if_pos c_429, upd_upd, upd_id]), (by have c_139 := c_13; (try simp only [ez_2, ez_3, ez_4, ef_5, ez_6, ez_7, ef_8, ez_9, ez_10, ef_11, ez_12, ef_37, ez_38, ez_39, ef_40, ez_41, ez_43, ez_44, ez_45, ez_46, ez_47, ez_48, ef_49, ef_50, upd_at, upd_upd, upd_id] at c_139); have c_429 := c_42; (try simp only [ez_2, ez_3, ez_4, ef_5, ez_6, ez_7, ef_8, ez_9, ez_10, ef_11, ez_12, ef_37, ez_38, ez_39, ef_40, ez_41, ez_43, ez_44, ez_45, ez_46, ez_47, ez_48, ef_49, ef_50, upd_at, upd_upd, upd_id] at c_429); simp only [ez_2, ez_3, ez_4, ef_5, ez_6, ez_7, ef_8, ez_9, ez_10, ef_11, ez_12, ef_37, ez_38, ez_39, ef_40, ez_41, ez_43, ez_44, ez_45, ez_46, ez_47, ez_48, ef_49, ef_50, upd_at, upd_upd, upd_id, if_neg c_139, if_pos c_429, upd_upd, upd_id]), (by have c_139 := c_13; (try simp only [ez_2, ez_3, ez_4, ef_5, ez_6, ez_7, ef_8, ez_9, ez_10, ef_11, ez_12, ef_37, ez_38, ez_39, ef_40, ez_41, ez_43, ez_44, ez_45, ez_46, ez_47, ez_48, ef_49, ef_50, upd_at, upd_upd, upd_id] at c_139); have c_429 := c_42; (try simp only [ez_2, ez_3, ez_4, ef_5, ez_6, ez_7, ef_8, ez_9, ez_10, ef_11, ez_12, ef_37, ez_38, ez_39, ef_40, ez_41, ez_43, ez_44, ez_45, ez_46, ez_47, ez_48, ef_49, ef_50, upd_at, upd_upd, upd_id] at c_429); simp only [ez_2, ez_3, ez_4, ef_5, ez_6, ez_7, ef_8, ez_9, ez_10, ef_11, ez_12, ef_37, ez_38, ez_39, ef_40, ez_41, ez_43, ez_44, ez_45, ez_46, ez_47, ez_48, ef_49, ef_50, upd_at, upd_upd, upd_id, if_neg c_139, if_pos c_429, upd_upd, upd_id])⟩⟩ (Nat.le_of_ble_eq_true rfl) (Nat.le_of_ble_eq_true rfl) dX10_thinks_125
    · have nc_42 := nle_i c_42
      have lc_42 : (1 : Int32).toInt = 1 := by decide
      refine lv_aload_n hx hb dX10_thinks_79 rfl (lv_at hl 1 rfl) ?_
      refine va_get (D := (dC, dI)) (ci := 10) (v := .ref (b 5)) (C := RX10) (T := TX10) (N := 51) hx hb hts inw_X10_thinks_10 hown hK hP 0 rfl rfl 5 (by decide) (hts (.fieldLink RX10 13 "VatHouseModel" "food" "[I") (List.mem_of_getElem? (i := 5) (by exact rfl))) (fun _ h9 => h9) rfl dX10_thinks_80 ?_
      refine lv_iload_n hx hb dX10_thinks_83 rfl (lv_at hl 3 rfl) ?_
      refine lv_iconst (v := 0) hx hb dX10_thinks_84 (by decide) ?_
      refine va_iast hx hb hK hP hD hS 2 1 rfl rfl (by assumption) dX10_thinks_85 (fun H locs hP hD hS => ?_)
      have hP : va_P (dC, dI) vwCl (mw g h0 b i (va_up (va_up (va_up (va_up (va_up a 4 f_5) 5 (upd f_40 vv.toNatClampNeg (0 : Int32))) 6 f_11) 7 f_37) 14 f_8)) _ := hP
      have hD : va_D _ (mw g h0 b i (va_up (va_up (va_up (va_up (va_up a 4 f_5) 5 (upd f_40 vv.toNatClampNeg (0 : Int32))) 6 f_11) 7 f_37) 14 f_8)) := hD
      obtain ⟨f_51, ef_51⟩ : ∃ z, z = (upd f_40 vv.toNatClampNeg (0 : Int32)) := ⟨_, rfl⟩
      rw [← ef_51] at hP hD
      refine lv_aload_n hx hb dX10_thinks_86 rfl (lv_at hl 1 rfl) ?_
      refine va_get (D := (dC, dI)) (ci := 10) (v := .ref (b 7)) (C := RX10) (T := TX10) (N := 51) hx hb hts inw_X10_thinks_10 hown hK hP 0 rfl rfl 7 (by decide) (hts (.fieldLink RX10 19 "VatHouseModel" "state" "[I") (List.mem_of_getElem? (i := 4) (by exact rfl))) (fun _ h9 => h9) rfl dX10_thinks_87 ?_
      refine lv_iload_n hx hb dX10_thinks_90 rfl (lv_at hl 3 rfl) ?_
      refine lv_iconst (v := 2) hx hb dX10_thinks_91 (by decide) ?_
      refine va_iast hx hb hK hP hD hS 4 3 rfl rfl (by assumption) dX10_thinks_92 (fun H locs hP hD hS => ?_)
      have hP : va_P (dC, dI) vwCl (mw g h0 b i (va_up (va_up (va_up (va_up (va_up a 4 f_5) 5 f_51) 6 f_11) 7 (upd f_37 vv.toNatClampNeg (2 : Int32))) 14 f_8)) _ := hP
      have hD : va_D _ (mw g h0 b i (va_up (va_up (va_up (va_up (va_up a 4 f_5) 5 f_51) 6 f_11) 7 (upd f_37 vv.toNatClampNeg (2 : Int32))) 14 f_8)) := hD
      obtain ⟨f_52, ef_52⟩ : ∃ z, z = (upd f_37 vv.toNatClampNeg (2 : Int32)) := ⟨_, rfl⟩
      rw [← ef_52] at hP hD
      refine lv_aload_n hx hb dX10_thinks_93 rfl (lv_at hl 1 rfl) ?_
      refine va_get (D := (dC, dI)) (ci := 10) (v := .ref (b 15)) (C := RX10) (T := TX10) (N := 51) hx hb hts inw_X10_thinks_10 hown hK hP 0 rfl rfl 15 (by decide) (hts (.fieldLink RX10 41 "VatHouseModel" "fast" "[I") (List.mem_of_getElem? (i := 6) (by exact rfl))) (fun _ h9 => h9) rfl dX10_thinks_94 ?_
      refine lv_iload_n hx hb dX10_thinks_97 rfl (lv_at hl 2 rfl) ?_
      refine lv_dup2_11 hx hb dX10_thinks_98 rfl rfl ?_
      refine va_iald hx hb hK hP 11 10 rfl rfl (by assumption) dX10_thinks_99 ?_
      refine lv_topi (fun z_53 ez_53 => ?_)
      have ez_53 : z_53 = (a 15) ck.toNatClampNeg := ez_53
      refine lv_aload_n hx hb dX10_thinks_100 rfl (lv_at hl 1 rfl) ?_
      refine va_get (D := (dC, dI)) (ci := 10) (v := .ref (b 14)) (C := RX10) (T := TX10) (N := 51) hx hb hts inw_X10_thinks_10 hown hK hP 0 rfl rfl 14 (by decide) (hts (.fieldLink RX10 38 "VatHouseModel" "loose" "[I") (List.mem_of_getElem? (i := 2) (by exact rfl))) (fun _ h9 => h9) rfl dX10_thinks_101 ?_
      refine lv_iload_n hx hb dX10_thinks_104 rfl (lv_at hl 2 rfl) ?_
      refine va_iald hx hb hK hP 10 9 rfl rfl (by assumption) dX10_thinks_105 ?_
      refine lv_topi (fun z_54 ez_54 => ?_)
      have ez_54 : z_54 = f_8 ck.toNatClampNeg := ez_54
      refine lv_aload_n hx hb dX10_thinks_106 rfl (lv_at hl 1 rfl) ?_
      refine va_get (D := (dC, dI)) (ci := 10) (v := .ref (b 14)) (C := RX10) (T := TX10) (N := 51) hx hb hts inw_X10_thinks_10 hown hK hP 0 rfl rfl 14 (by decide) (hts (.fieldLink RX10 38 "VatHouseModel" "loose" "[I") (List.mem_of_getElem? (i := 2) (by exact rfl))) (fun _ h9 => h9) rfl dX10_thinks_107 ?_
      refine lv_iload_n hx hb dX10_thinks_110 rfl (lv_at hl 2 rfl) ?_
      refine va_iald hx hb hK hP 10 9 rfl rfl (by assumption) dX10_thinks_111 ?_
      refine lv_topi (fun z_55 ez_55 => ?_)
      have ez_55 : z_55 = f_8 ck.toNatClampNeg := ez_55
      refine lv_bipush (v := 8) hx hb dX10_thinks_112 (by decide) ?_
      refine lv_idiv hx hb dX10_thinks_114 (by decide) ?_
      refine lv_topi (fun z_56 ez_56 => ?_)
      refine lv_isub hx hb dX10_thinks_115 ?_
      refine lv_topi (fun z_57 ez_57 => ?_)
      refine lv_iadd hx hb dX10_thinks_116 ?_
      refine lv_topi (fun z_58 ez_58 => ?_)
      refine va_iast hx hb hK hP hD hS 11 10 rfl rfl (by assumption) dX10_thinks_117 (fun H locs hP hD hS => ?_)
      have hP : va_P (dC, dI) vwCl (mw g h0 b i (va_up (va_up (va_up (va_up (va_up (va_up a 4 f_5) 5 f_51) 6 f_11) 7 f_52) 14 f_8) 15 (upd (a 15) ck.toNatClampNeg z_58))) _ := hP
      have hD : va_D _ (mw g h0 b i (va_up (va_up (va_up (va_up (va_up (va_up a 4 f_5) 5 f_51) 6 f_11) 7 f_52) 14 f_8) 15 (upd (a 15) ck.toNatClampNeg z_58))) := hD
      obtain ⟨f_59, ef_59⟩ : ∃ z, z = (upd (a 15) ck.toNatClampNeg z_58) := ⟨_, rfl⟩
      rw [← ef_59] at hP hD
      refine lv_aload_n hx hb dX10_thinks_118 rfl (lv_at hl 1 rfl) ?_
      refine va_get (D := (dC, dI)) (ci := 10) (v := .ref (b 14)) (C := RX10) (T := TX10) (N := 51) hx hb hts inw_X10_thinks_10 hown hK hP 0 rfl rfl 14 (by decide) (hts (.fieldLink RX10 38 "VatHouseModel" "loose" "[I") (List.mem_of_getElem? (i := 2) (by exact rfl))) (fun _ h9 => h9) rfl dX10_thinks_119 ?_
      refine lv_iload_n hx hb dX10_thinks_122 rfl (lv_at hl 2 rfl) ?_
      refine lv_iconst (v := 0) hx hb dX10_thinks_123 (by decide) ?_
      refine va_iast hx hb hK hP hD hS 10 9 rfl rfl (by assumption) dX10_thinks_124 (fun H locs hP hD hS => ?_)
      have hP : va_P (dC, dI) vwCl (mw g h0 b i (va_up (va_up (va_up (va_up (va_up (va_up a 4 f_5) 5 f_51) 6 f_11) 7 f_52) 14 (upd f_8 ck.toNatClampNeg (0 : Int32))) 15 f_59)) _ := hP
      have hD : va_D _ (mw g h0 b i (va_up (va_up (va_up (va_up (va_up (va_up a 4 f_5) 5 f_51) 6 f_11) 7 f_52) 14 (upd f_8 ck.toNatClampNeg (0 : Int32))) 15 f_59)) := hD
      obtain ⟨f_60, ef_60⟩ : ∃ z, z = (upd f_8 ck.toNatClampNeg (0 : Int32)) := ⟨_, rfl⟩
      rw [← ef_60] at hP hD
      exact M_v hx hb hr hlocks (f_5, f_51, f_11, f_52, f_60, f_59) hP hD hK hS ⟨rfl, ⟨(by have c_139 := c_13; (try simp only [ez_2, ez_3, ez_4, ef_5, ez_6, ez_7, ef_8, ez_9, ez_10, ef_11, ez_12, ef_37, ez_38, ez_39, ef_40, ez_41, ef_51, ef_52, ez_53, ez_54, ez_55, ez_56, ez_57, ez_58, ef_59, ef_60, upd_at, upd_upd, upd_id] at c_139); have c_429 := c_42; (try simp only [ez_2, ez_3, ez_4, ef_5, ez_6, ez_7, ef_8, ez_9, ez_10, ef_11, ez_12, ef_37, ez_38, ez_39, ef_40, ez_41, ef_51, ef_52, ez_53, ez_54, ez_55, ez_56, ez_57, ez_58, ef_59, ef_60, upd_at, upd_upd, upd_id] at c_429); simp only [ez_2, ez_3, ez_4, ef_5, ez_6, ez_7, ef_8, ez_9, ez_10, ef_11, ez_12, ef_37, ez_38, ez_39, ef_40, ez_41, ef_51, ef_52, ez_53, ez_54, ez_55, ez_56, ez_57, ez_58, ef_59, ef_60, upd_at, upd_upd, upd_id, if_neg c_139, if_neg c_429, upd_upd, upd_id]), (by have c_139 := c_13; (try simp only [ez_2, ez_3, ez_4, ef_5, ez_6, ez_7, ef_8, ez_9, ez_10, ef_11, ez_12, ef_37, ez_38, ez_39, ef_40, ez_41, ef_51, ef_52, ez_53, ez_54, ez_55, ez_56, ez_57, ez_58, ef_59, ef_60, upd_at, upd_upd, upd_id] at c_139); have c_429 := c_42; (try simp only [ez_2, ez_3, ez_4, ef_5, ez_6, ez_7, ef_8, ez_9, ez_10, ef_11, ez_12, ef_37, ez_38, ez_39, ef_40, ez_41, ef_51, ef_52, ez_53, ez_54, ez_55, ez_56, ez_57, ez_58, ef_59, ef_60, upd_at, upd_upd, upd_id] at c_429); simp only [skF, ez_2, ez_3, ez_4, ef_5, ez_6, ez_7, ef_8, ez_9, ez_10, ef_11, ez_12, ef_37, ez_38, ez_39, ef_40, ez_41, ef_51, ef_52, ez_53, ez_54, ez_55, ez_56, ez_57, ez_58, ef_59, ef_60, upd_at, upd_upd, upd_id, if_neg c_139, if_neg c_429, upd_upd, upd_id]), (by have c_139 := c_13; (try simp only [ez_2, ez_3, ez_4, ef_5, ez_6, ez_7, ef_8, ez_9, ez_10, ef_11, ez_12, ef_37, ez_38, ez_39, ef_40, ez_41, ef_51, ef_52, ez_53, ez_54, ez_55, ez_56, ez_57, ez_58, ef_59, ef_60, upd_at, upd_upd, upd_id] at c_139); have c_429 := c_42; (try simp only [ez_2, ez_3, ez_4, ef_5, ez_6, ez_7, ef_8, ez_9, ez_10, ef_11, ez_12, ef_37, ez_38, ez_39, ef_40, ez_41, ef_51, ef_52, ez_53, ez_54, ez_55, ez_56, ez_57, ez_58, ef_59, ef_60, upd_at, upd_upd, upd_id] at c_429); simp only [ez_2, ez_3, ez_4, ef_5, ez_6, ez_7, ef_8, ez_9, ez_10, ef_11, ez_12, ef_37, ez_38, ez_39, ef_40, ez_41, ef_51, ef_52, ez_53, ez_54, ez_55, ez_56, ez_57, ez_58, ef_59, ef_60, upd_at, upd_upd, upd_id, if_neg c_139, if_neg c_429, upd_upd, upd_id]), (by have c_139 := c_13; (try simp only [ez_2, ez_3, ez_4, ef_5, ez_6, ez_7, ef_8, ez_9, ez_10, ef_11, ez_12, ef_37, ez_38, ez_39, ef_40, ez_41, ef_51, ef_52, ez_53, ez_54, ez_55, ez_56, ez_57, ez_58, ef_59, ef_60, upd_at, upd_upd, upd_id] at c_139); have c_429 := c_42; (try simp only [ez_2, ez_3, ez_4, ef_5, ez_6, ez_7, ef_8, ez_9, ez_10, ef_11, ez_12, ef_37, ez_38, ez_39, ef_40, ez_41, ef_51, ef_52, ez_53, ez_54, ez_55, ez_56, ez_57, ez_58, ef_59, ef_60, upd_at, upd_upd, upd_id] at c_429); simp only [skS, ez_2, ez_3, ez_4, ef_5, ez_6, ez_7, ef_8, ez_9, ez_10, ef_11, ez_12, ef_37, ez_38, ez_39, ef_40, ez_41, ef_51, ef_52, ez_53, ez_54, ez_55, ez_56, ez_57, ez_58, ef_59, ef_60, upd_at, upd_upd, upd_id, if_neg c_139, if_neg c_429, upd_upd, upd_id]), (by have c_139 := c_13; (try simp only [ez_2, ez_3, ez_4, ef_5, ez_6, ez_7, ef_8, ez_9, ez_10, ef_11, ez_12, ef_37, ez_38, ez_39, ef_40, ez_41, ef_51, ef_52, ez_53, ez_54, ez_55, ez_56, ez_57, ez_58, ef_59, ef_60, upd_at, upd_upd, upd_id] at c_139); have c_429 := c_42; (try simp only [ez_2, ez_3, ez_4, ef_5, ez_6, ez_7, ef_8, ez_9, ez_10, ef_11, ez_12, ef_37, ez_38, ez_39, ef_40, ez_41, ef_51, ef_52, ez_53, ez_54, ez_55, ez_56, ez_57, ez_58, ef_59, ef_60, upd_at, upd_upd, upd_id] at c_429); simp only [ez_2, ez_3, ez_4, ef_5, ez_6, ez_7, ef_8, ez_9, ez_10, ef_11, ez_12, ef_37, ez_38, ez_39, ef_40, ez_41, ef_51, ef_52, ez_53, ez_54, ez_55, ez_56, ez_57, ez_58, ef_59, ef_60, upd_at, upd_upd, upd_id, if_neg c_139, if_neg c_429, upd_upd, upd_id]), (by have c_139 := c_13; (try simp only [ez_2, ez_3, ez_4, ef_5, ez_6, ez_7, ef_8, ez_9, ez_10, ef_11, ez_12, ef_37, ez_38, ez_39, ef_40, ez_41, ef_51, ef_52, ez_53, ez_54, ez_55, ez_56, ez_57, ez_58, ef_59, ef_60, upd_at, upd_upd, upd_id] at c_139); have c_429 := c_42; (try simp only [ez_2, ez_3, ez_4, ef_5, ez_6, ez_7, ef_8, ez_9, ez_10, ef_11, ez_12, ef_37, ez_38, ez_39, ef_40, ez_41, ef_51, ef_52, ez_53, ez_54, ez_55, ez_56, ez_57, ez_58, ef_59, ef_60, upd_at, upd_upd, upd_id] at c_429); simp only [ez_2, ez_3, ez_4, ef_5, ez_6, ez_7, ef_8, ez_9, ez_10, ef_11, ez_12, ef_37, ez_38, ez_39, ef_40, ez_41, ef_51, ef_52, ez_53, ez_54, ez_55, ez_56, ez_57, ez_58, ef_59, ef_60, upd_at, upd_upd, upd_id, if_neg c_139, if_neg c_429, upd_upd, upd_id])⟩⟩ (Nat.le_of_ble_eq_true rfl) (Nat.le_of_ble_eq_true rfl) dX10_thinks_125
