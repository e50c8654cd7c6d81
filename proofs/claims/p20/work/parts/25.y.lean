theorem and255 (y : Int32) : (y &&& 255).toInt = y.toInt % 256 := by
  have h : (y &&& 255).toBitVec = y.toBitVec &&& 255#32 := rfl
  have h2 : (y &&& 255).toInt = (y.toBitVec &&& 255#32).toInt := rfl
  have h3 : (y.toBitVec &&& 255#32).toNat = y.toBitVec.toNat % 256 := by
    rw [BitVec.toNat_and]
    exact Nat.and_two_pow_sub_one_eq_mod _ 8
  have h4 : (y.toBitVec.toNat : Int) % 256 = y.toInt % 256 := by
    show _ = y.toBitVec.toInt % 256
    rw [BitVec.toInt_eq_toNat_bmod, Int.bmod_def]
    split <;> omega
  rw [h2, BitVec.toInt_eq_toNat_bmod, h3, Int.bmod_def]
  have := Nat.mod_lt y.toBitVec.toNat (by decide : 0 < 256)
  split <;> omega
theorem nar8 (y : Int32) : vp_nar .byte y.toInt8.toInt32 = y.toInt8.toInt32 := by
  show y.toInt8.toInt32.toInt8.toInt32 = y.toInt8.toInt32
  simp
theorem i8 (y : Int32) : (y.toInt8.toInt32).toInt = Int.bmod y.toInt 256 := by
  simp

noncomputable def bM (x : Int32) (i : Nat) : Int32 := (x >>> ((24 - 8 * nI i) &&& 31)) &&& 255
theorem agb_b (x : Int32) (i : Nat) : agb (b8 x i) (bM x i) := by
  unfold b8 bM
  generalize x >>> ((24 - 8 * nI i) &&& 31) = y
  rw [nar8]
  have h1 := i8 y
  have h2 := and255 y
  have hb := Int.bmod_def y.toInt 256
  by_cases h : y.toInt % 256 < 128
  · refine Or.inl (Int32.toInt_inj.mp ?_)
    rw [h1, h2, hb, if_pos (by omega)]
    rfl
  · refine Or.inr ?_
    rw [Int32.lt_iff_toInt_lt, Int32.lt_iff_toInt_lt, h1, h2, hb, if_neg (by omega)]
    have e0 : (0 : Int32).toInt = 0 := by decide
    have e127 : (127 : Int32).toInt = 127 := by decide
    omega
theorem apF_at {b : Int32 → Nat → Int32} {t : Nat → Int32} {n : Nat} {x : Int32} {p : Nat} : ∀ i : Nat, apF b t n x i p = if n ≤ p ∧ p < n + i then b x (p - n) else t p := by
  intro i
  induction i with
  | zero => rw [if_neg (by omega)]; rfl
  | succ i ih =>
    show upd (apF b t n x i) (n + i) (b x i) p = _
    by_cases e : p = n + i
    · subst e
      rw [if_pos (by omega), show n + i - n = i by omega]
      exact if_pos rfl
    · have e2 : upd (apF b t n x i) (n + i) (b x i) p = apF b t n x i p := if_neg e
      rw [e2, ih]
      by_cases h : n ≤ p ∧ p < n + i
      · rw [if_pos h, if_pos (by omega)]
      · rw [if_neg h, if_neg (by omega)]
theorem apF_ag {tc tm : Nat → Int32} {n : Nat} {x : Int32} (h : ∀ p, p < n → agb (tc p) (tm p)) : ∀ p, p < n + 4 → agb (apF b8 tc n x 4 p) (apF bM tm n x 4 p) := by
  intro p hp
  rw [apF_at, apF_at]
  by_cases g : n ≤ p ∧ p < n + 4
  · rw [if_pos g, if_pos g]; exact agb_b x _
  · rw [if_neg g, if_neg g]; exact h p (by omega)
theorem ap5_ag {tc tm : Nat → Int32} {n : Nat} {x1 x2 x3 x4 x5 : Int32} (h : ∀ p, p < n → agb (tc p) (tm p)) : ∀ p, p < n + 20 → agb (ap5 b8 tc n x1 x2 x3 x4 x5 p) (ap5 bM tm n x1 x2 x3 x4 x5 p) :=
  apF_ag (n := n + 16) (apF_ag (n := n + 12) (apF_ag (n := n + 8) (apF_ag (n := n + 4) (apF_ag h))))
noncomputable def LAX (t t1 : Nat → Int32) (tl k1 sh fb : Int32) : Prop := ∀ nn : Nat, tl = nI nn → nn ≤ 1496 → ∃ i : Nat, i ≤ 4 ∧ sh = 24 - 8 * nI i ∧ k1 = nI (nn + i) ∧ t1 = apF bM t nn fb i
theorem LAX.nx {t t1 t2 : Nat → Int32} {tl k1 k2 sh fb z1 z2 : Int32} (h : LAX t t1 tl k1 sh fb) (h0 : ¬ sh < 0) (hz1 : z1 = fb >>> (sh &&& 31)) (hz2 : z2 = z1 &&& 255) (hf : t2 = upd t1 k1.toNatClampNeg z2) (hk : k2 = k1 + 1) : LAX t t2 tl k2 (sh + -8) fb := by
  intro nn h1 h2
  obtain ⟨i, g1, g2, g3, g4⟩ := h nn h1 h2
  rw [g2, shv_4 i (by omega)] at h0
  refine ⟨i + 1, by omega, by rw [g2]; exact shv_nx i (by omega), by rw [hk, g3]; exact nI_1 _, ?_⟩
  rw [hf, g3, nI_clamp (by omega), g4, hz2, hz1, g2]
  rfl
theorem LAX.e {t t1 : Nat → Int32} {tl k1 sh fb : Int32} (h : LAX t t1 tl k1 sh fb) (h0 : sh < 0) (nn : Nat) (h1 : tl = nI nn) (h2 : nn ≤ 1496) : k1 = nI (nn + 4) ∧ t1 = apF bM t nn fb 4 := by
  obtain ⟨i, g1, g2, g3, g4⟩ := h nn h1 h2
  rw [g2, shv_4 i (by omega)] at h0
  subst h0
  exact ⟨g3, g4⟩

noncomputable abbrev rm_X10_laysX : Room := { frames := 0, cells := 0, slots := 0, locals := 0 }
set_option maxHeartbeats 1000000 in
set_option maxRecDepth 100000 in
theorem m_X10_laysX (l : Launch) (dC : Nat → ClassId) (dI : Nat → Nat → Nat) (sa : Nat → Nat) (g : Nat → Nat) (h0 : Nat) (b : Nat → Nat) (i : Nat → Int32) (a : Nat → Nat → Int32) (vl : Int32) (sz : Nat) (hTI : 0 ≤ (i 20).toInt ∧ (i 20).toInt ≤ 1496) : CT l dC dI sa yX10_lays wsX10_lays rm_X10_laysX [.ref h0, .int vl] (mw g h0 b i a) (tyM g) sz (fun (r : Option Value) (u : Int32 × (Nat → Int32)) => match u with | (x20, y19) => (r = none) ∧ (x20.toInt = (i 20).toInt + 4 ∧ ∀ nn : Nat, (i 20) = nI nn → nn ≤ 1496 → x20 = nI (nn + 4) ∧ y19 = apF bM (a 19) nn vl 4)) (fun (u : Int32 × (Nat → Int32)) => match u with | (x20, y19) => mw g h0 b (va_up i 20 x20) (va_up a 19 y19)) (fun _ => []) 0 0 := by
  refine CT.start (cc := cX10_lays) (maxL := 3) (ret := none) (by decide) rfl (Nat.le_of_ble_eq_true rfl) ?_
  intro p e s m below meth c ls hst hP hK hD hev hS hl
  obtain ⟨hx, hb, hr, hml, hts, hown, hlocks, hin⟩ := hst
  have hown : s.vm.findClass RX10 = some m.cls := hown
  have hA : ∀ q : Nat, s.heap.size ≤ q → va_A (mw g h0 b i a) s.heap.size q := fun _ h => Or.inr h
  have hl : lv_has ls 3 [(0, .ref h0), (1, .int vl)] := hl
  refine lv_bipush (v := 24) hx hb dX10_lays_0 (by decide) ?_
  refine lv_istore_n (lv' := [(2, .int 24), (0, .ref h0), (1, .int vl)]) hx hb dX10_lays_2 rfl hl (by decide) rfl (fun ls hl => ?_)
  have lp : ∀ (n : Nat) (sh : Int32) (l20 : Int32) (l19 : Nat → Int32) (H : Heap) (locs : List Loc) (ls : Array Slot), (La (i 20) l20 sh n) → (LAX (a 19) l19 (i 20) l20 sh vl) → va_P (dC, dI) vwCl (mw g h0 b (va_up i 20 l20) (va_up a 19 l19)) H → va_D (va_A (mw g h0 b i a) s.heap.size) (mw g h0 b (va_up i 20 l20) (va_up a 19 l19)) → va_S (va_A (mw g h0 b i a) s.heap.size) s.heap H locs → lv_has ls 3 [(2, .int sh), (0, .ref h0), (1, .int vl)] → W p l e rm_X10_laysX s m [.ref h0, .int vl].toArray below meth c H locs 0 0 (MQ below (Qg (fun (r : Option Value) (u : Int32 × (Nat → Int32)) => match u with | (x20, y19) => (r = none) ∧ (x20.toInt = (i 20).toInt + 4 ∧ ∀ nn : Nat, (i 20) = nI nn → nn ≤ 1496 → x20 = nI (nn + 4) ∧ y19 = apF bM (a 19) nn vl 4)) (fun u t => QW dC dI (va_A (mw g h0 b i a) s.heap.size) ((fun (u : Int32 × (Nat → Int32)) => match u with | (x20, y19) => mw g h0 b (va_up i 20 x20) (va_up a 19 y19)) u) [] t) (va_A (mw g h0 b i a) s.heap.size)) [.ref h0, .int vl].toArray s 0 0 (va_A (mw g h0 b i a) s.heap.size)) (F0 m 3 ls []) := by
    intro n
    induction n with
    | zero => intro sh l20 l19 H locs ls hm hq hP hD hS hl; exact hm.z.elim
    | succ n ih =>
      intro sh l20 l19 H locs ls hm hq hP hD hS hl
      refine lv_iload_n hx hb dX10_lays_3 rfl (lv_at hl 0 rfl) ?_
      refine lv_if_lt (tgt := 39) hx hb dX10_lays_4 (by decide) (fun c_1 => ?_) (fun c_1 => ?_)
      · have nc_1 := lt_i c_1
        have lc_1 : (0 : Int32).toInt = 0 := by decide
        exact M_v hx hb hr hlocks (l20, l19) hP hD hK hS ⟨rfl, ⟨hm.e c_1, hq.e c_1⟩⟩ (Nat.le_of_ble_eq_true rfl) (Nat.le_of_ble_eq_true rfl) dX10_lays_39
      · have nc_1 := nlt_i c_1
        have lc_1 : (0 : Int32).toInt = 0 := by decide
        refine lv_aload_n hx hb dX10_lays_7 rfl (lv_at hl 1 rfl) ?_
        refine va_get (D := (dC, dI)) (ci := 10) (v := .ref (b 19)) (C := RX10) (T := TX10) (N := 51) hx hb hts inw_X10_lays_10 hown hK hP 0 rfl rfl 19 (by decide) (hts (.fieldLink RX10 53 "VatHouseModel" "tape" "[I") (List.mem_of_getElem? (i := 1) (by exact rfl))) (fun _ h9 => h9) rfl dX10_lays_8 ?_
        refine lv_aload_n hx hb dX10_lays_11 rfl (lv_at hl 1 rfl) ?_
        refine va_get (D := (dC, dI)) (ci := 10) (v := .int l20) (C := RX10) (T := TX10) (N := 51) hx hb hts inw_X10_lays_10 hown hK hP 0 rfl rfl 20 (by decide) (hts (.fieldLink RX10 159 "VatHouseModel" "taped" "I") (List.mem_of_getElem? (i := 2) (by exact rfl))) (fun _ h9 => h9) rfl dX10_lays_12 ?_
        refine lv_iload_n hx hb dX10_lays_15 rfl (lv_at hl 2 rfl) ?_
        refine lv_iload_n hx hb dX10_lays_16 rfl (lv_at hl 0 rfl) ?_
        refine lv_ishr hx hb dX10_lays_17 ?_
        refine lv_topi (fun z_2 ez_2 => ?_)
        refine lv_sipush (v := 255) hx hb dX10_lays_18 (by decide) ?_
        refine lv_iand hx hb dX10_lays_21 ?_
        refine lv_topi (fun z_3 ez_3 => ?_)
        refine va_iast hx hb hK hP hD hS 15 14 rfl rfl (in_i (hm.in c_1 hTI).1 (hm.in c_1 hTI).2) dX10_lays_22 (fun H locs hP hD hS => ?_)
        have hP : va_P (dC, dI) vwCl (mw g h0 b (va_up i 20 l20) (va_up a 19 (upd l19 l20.toNatClampNeg z_3))) _ := hP
        have hD : va_D _ (mw g h0 b (va_up i 20 l20) (va_up a 19 (upd l19 l20.toNatClampNeg z_3))) := hD
        obtain ⟨f_4, ef_4⟩ : ∃ z, z = (upd l19 l20.toNatClampNeg z_3) := ⟨_, rfl⟩
        rw [← ef_4] at hP hD
        refine lv_aload_n hx hb dX10_lays_23 rfl (lv_at hl 1 rfl) ?_
        refine lv_dup hx hb dX10_lays_24 rfl ?_
        refine va_get (D := (dC, dI)) (ci := 10) (v := .int l20) (C := RX10) (T := TX10) (N := 51) hx hb hts inw_X10_lays_10 hown hK hP 0 rfl rfl 20 (by decide) (hts (.fieldLink RX10 159 "VatHouseModel" "taped" "I") (List.mem_of_getElem? (i := 2) (by exact rfl))) (fun _ h9 => h9) rfl dX10_lays_25 ?_
        refine lv_iconst (v := 1) hx hb dX10_lays_28 (by decide) ?_
        refine lv_iadd hx hb dX10_lays_29 ?_
        refine lv_topi (fun z_5 ez_5 => ?_)
        refine va_put (D := (dC, dI)) (ci := 10) (v := .int z_5) (ty := .int) (C := RX10) (T := TX10) (N := 51) hx hb hts inw_X10_lays_10 tyX10 tyX10_ok nmX10 hown hK hP hD hS 0 rfl rfl 20 (by decide) (hts (.fieldLink RX10 159 "VatHouseModel" "taped" "I") (List.mem_of_getElem? (i := 2) (by exact rfl))) (fun _ h9 => h9) rfl (tyX10_ok 20 (by decide)) rfl rfl (Nat.le_of_ble_eq_true rfl) dX10_lays_30 (fun H locs hP hD hS => ?_)
        have hP : va_P (dC, dI) vwCl (mw g h0 b (va_up i 20 z_5) (va_up a 19 f_4)) _ := hP
        have hD : va_D _ (mw g h0 b (va_up i 20 z_5) (va_up a 19 f_4)) := hD
        refine lv_iinc (v := (sh + (-8))) (lv' := [(2, .int (sh + (-8))), (0, .ref h0), (1, .int vl)]) hx hb dX10_lays_33 hl (k := 0) rfl rfl (by decide) rfl (fun ls hl => ?_)
        refine lv_goto (tgt := 3) hx hb dX10_lays_36 (by decide) ?_
        exact ih (sh + (-8)) z_5 f_4 _ _ _ (hm.nx c_1 hTI ez_5) (hq.nx c_1 ez_2 ez_3 ef_4 ez_5) hP hD hS (lv_sub hl [0, 1, 2] rfl)
  exact lp 5 (24 : Int32) (i 20) (a 19) _ _ _ (⟨0, Or.inl ⟨rfl, rfl⟩, by omega, by omega⟩) (fun nn h1 h2 => ⟨0, by omega, by decide, h1, rfl⟩) hP hD hS (lv_sub hl [0, 1, 2] rfl)

noncomputable abbrev rm_X10_putX : Room := { frames := 1, cells := 0, slots := 0, locals := 22 }
set_option maxHeartbeats 1000000 in
set_option maxRecDepth 100000 in
theorem m_X10_putX (l : Launch) (dC : Nat → ClassId) (dI : Nat → Nat → Nat) (sa : Nat → Nat) (g : Nat → Nat) (h0 : Nat) (b : Nat → Nat) (i : Nat → Int32) (a : Nat → Nat → Int32) (a1 : Int32) (a2 : Int32) (a3 : Int32) (a4 : Int32) (a5 : Int32) (sz : Nat) (hT2 : 0 ≤ (i 20).toInt ∧ (i 20).toInt ≤ 1500) : CT l dC dI sa yX10_put wsX10_put rm_X10_putX [.ref h0, .int a1, .int a2, .int a3, .int a4, .int a5] (mw g h0 b i a) (tyM g) sz (fun (r : Option Value) (u : Int32 × Int32 × (Nat → Int32)) => match u with | (x0, x20, y19) => (∃ z : Int32, r = some (.int z) ∧ ((1480 < (i 20).toInt ∧ z = -1 ∧ x20 = (i 20)) ∨ ((i 20).toInt ≤ 1480 ∧ z = x20 ∧ x20.toInt = (i 20).toInt + 20))) ∧ (∀ nn : Nat, (i 20) = nI nn → nn ≤ 1500 → (nn ≤ 1480 → x20 = nI (nn + 20) ∧ y19 = ap5 bM (a 19) nn a1 a2 a3 a4 a5) ∧ (¬ nn ≤ 1480 → x20 = (i 20) ∧ y19 = (a 19)))) (fun (u : Int32 × Int32 × (Nat → Int32)) => match u with | (x0, x20, y19) => mw g h0 b (va_up (va_up i 0 x0) 20 x20) (va_up a 19 y19)) (fun _ => []) 0 0 := by
  refine CT.start (cc := cX10_put) (maxL := 6) (ret := (some .int)) (by decide) rfl (Nat.le_of_ble_eq_true rfl) ?_
  intro p e s m below meth c ls hst hP hK hD hev hS hl
  obtain ⟨hx, hb, hr, hml, hts, hown, hlocks, hin⟩ := hst
  have hown : s.vm.findClass RX10 = some m.cls := hown
  have hA : ∀ q : Nat, s.heap.size ≤ q → va_A (mw g h0 b i a) s.heap.size q := fun _ h => Or.inr h
  have hl : lv_has ls 6 [(0, .ref h0), (1, .int a1), (2, .int a2), (3, .int a3), (4, .int a4), (5, .int a5)] := hl
  refine lv_aload_n hx hb dX10_put_0 rfl (lv_at hl 0 rfl) ?_
  refine lv_iconst (v := 0) hx hb dX10_put_1 (by decide) ?_
  refine va_put (D := (dC, dI)) (ci := 10) (v := .int 0) (ty := .int) (C := RX10) (T := TX10) (N := 51) hx hb hts inw_X10_put_10 tyX10 tyX10_ok nmX10 hown hK hP hD hS 0 rfl rfl 0 (by decide) (hts (.fieldLink RX10 105 "VatHouseModel" "thrown" "I") (List.mem_of_getElem? (i := 1) (by exact rfl))) (fun _ h9 => h9) rfl (tyX10_ok 0 (by decide)) rfl rfl (Nat.le_of_ble_eq_true rfl) dX10_put_2 (fun H locs hP hD hS => ?_)
  have hP : va_P (dC, dI) vwCl (mw g h0 b (va_up i 0 (0 : Int32)) a) _ := hP
  have hD : va_D _ (mw g h0 b (va_up i 0 (0 : Int32)) a) := hD
  refine lv_aload_n hx hb dX10_put_5 rfl (lv_at hl 0 rfl) ?_
  refine va_get (D := (dC, dI)) (ci := 10) (v := .int (i 20)) (C := RX10) (T := TX10) (N := 51) hx hb hts inw_X10_put_10 hown hK hP 0 rfl rfl 20 (by decide) (hts (.fieldLink RX10 159 "VatHouseModel" "taped" "I") (List.mem_of_getElem? (i := 2) (by exact rfl))) (fun _ h9 => h9) rfl dX10_put_6 ?_
  refine lv_bipush (v := 20) hx hb dX10_put_9 (by decide) ?_
  refine lv_iadd hx hb dX10_put_11 ?_
  refine lv_topi (fun z_1 ez_1 => ?_)
  have h20 : (20 : Int32).toInt = 20 := by decide
  have hs20 := add_i ez_1 (by omega) (by omega)
  refine lv_sipush (v := 1500) hx hb dX10_put_12 (by decide) ?_
  refine lv_icmp_le (tgt := 20) hx hb dX10_put_15 (by decide) (fun c_2 => ?_) (fun c_2 => ?_)
  · have nc_2 := le_i c_2
    have lc_2 : (1500 : Int32).toInt = 1500 := by decide
    refine lv_aload_n hx hb dX10_put_20 rfl (lv_at hl 0 rfl) ?_
    refine lv_iload_n hx hb dX10_put_21 rfl (lv_at hl 1 rfl) ?_
    refine M_V ⟨hx, hb, hml, hown, hts⟩ (m_X10_laysX l dC dI sa g h0 b (va_up i 0 (0 : Int32)) a a1 _ (show 0 ≤ (i 20).toInt ∧ (i 20).toInt ≤ 1496 from ⟨by omega, by omega⟩)) (cwV 1 hts gX10_put_X10_lays rfl rfl rfl (by decide +kernel) ⟨Nat.le_of_ble_eq_true rfl, Nat.le_of_ble_eq_true rfl⟩) hP hD hK hS hA hev rfl rfl rfl rfl hl.1 rfl (Nat.le_of_ble_eq_true rfl) dX10_put_22 ⟨(Nat.le_of_ble_eq_true rfl), (Nat.le_of_ble_eq_true rfl)⟩ (fun r u H locs hw hP hD hS => ?_)
    obtain ⟨x20_3, y19_4⟩ := u
    have hw : (r = none) ∧ (x20_3.toInt = (i 20).toInt + 4 ∧ ∀ nn : Nat, (i 20) = nI nn → nn ≤ 1496 → x20_3 = nI (nn + 4) ∧ y19_4 = apF bM (a 19) nn a1 4) := hw
    obtain ⟨rfl, hw_5⟩ := hw
    have hP : va_P (dC, dI) vwCl (mw g h0 b (va_up (va_up i 0 (0 : Int32)) 20 x20_3) (va_up a 19 y19_4)) _ := hP
    have hD : va_D _ (mw g h0 b (va_up (va_up i 0 (0 : Int32)) 20 x20_3) (va_up a 19 y19_4)) := hD
    refine W.eq (g2 := F0 m 25 ls []) rfl ?_
    obtain ⟨hlt_7, hly_6⟩ := hw_5
    refine lv_aload_n hx hb dX10_put_25 rfl (lv_at hl 0 rfl) ?_
    refine lv_iload_n hx hb dX10_put_26 rfl (lv_at hl 2 rfl) ?_
    refine M_V ⟨hx, hb, hml, hown, hts⟩ (m_X10_laysX l dC dI sa g h0 b (va_up (va_up i 0 (0 : Int32)) 20 x20_3) (va_up a 19 y19_4) a2 _ (show 0 ≤ x20_3.toInt ∧ x20_3.toInt ≤ 1496 from ⟨by omega, by omega⟩)) (cwV 1 hts gX10_put_X10_lays rfl rfl rfl (by decide +kernel) ⟨Nat.le_of_ble_eq_true rfl, Nat.le_of_ble_eq_true rfl⟩) hP hD hK hS hA hev rfl rfl rfl rfl hl.1 rfl (Nat.le_of_ble_eq_true rfl) dX10_put_27 ⟨(Nat.le_of_ble_eq_true rfl), (Nat.le_of_ble_eq_true rfl)⟩ (fun r u H locs hw hP hD hS => ?_)
    obtain ⟨x20_8, y19_9⟩ := u
    have hw : (r = none) ∧ (x20_8.toInt = x20_3.toInt + 4 ∧ ∀ nn : Nat, x20_3 = nI nn → nn ≤ 1496 → x20_8 = nI (nn + 4) ∧ y19_9 = apF bM y19_4 nn a2 4) := hw
    obtain ⟨rfl, hw_10⟩ := hw
    have hP : va_P (dC, dI) vwCl (mw g h0 b (va_up (va_up i 0 (0 : Int32)) 20 x20_8) (va_up a 19 y19_9)) _ := hP
    have hD : va_D _ (mw g h0 b (va_up (va_up i 0 (0 : Int32)) 20 x20_8) (va_up a 19 y19_9)) := hD
    refine W.eq (g2 := F0 m 30 ls []) rfl ?_
    obtain ⟨hlt_12, hly_11⟩ := hw_10
    refine lv_aload_n hx hb dX10_put_30 rfl (lv_at hl 0 rfl) ?_
    refine lv_iload_n hx hb dX10_put_31 rfl (lv_at hl 3 rfl) ?_
    refine M_V ⟨hx, hb, hml, hown, hts⟩ (m_X10_laysX l dC dI sa g h0 b (va_up (va_up i 0 (0 : Int32)) 20 x20_8) (va_up a 19 y19_9) a3 _ (show 0 ≤ x20_8.toInt ∧ x20_8.toInt ≤ 1496 from ⟨by omega, by omega⟩)) (cwV 1 hts gX10_put_X10_lays rfl rfl rfl (by decide +kernel) ⟨Nat.le_of_ble_eq_true rfl, Nat.le_of_ble_eq_true rfl⟩) hP hD hK hS hA hev rfl rfl rfl rfl hl.1 rfl (Nat.le_of_ble_eq_true rfl) dX10_put_32 ⟨(Nat.le_of_ble_eq_true rfl), (Nat.le_of_ble_eq_true rfl)⟩ (fun r u H locs hw hP hD hS => ?_)
    obtain ⟨x20_13, y19_14⟩ := u
    have hw : (r = none) ∧ (x20_13.toInt = x20_8.toInt + 4 ∧ ∀ nn : Nat, x20_8 = nI nn → nn ≤ 1496 → x20_13 = nI (nn + 4) ∧ y19_14 = apF bM y19_9 nn a3 4) := hw
    obtain ⟨rfl, hw_15⟩ := hw
    have hP : va_P (dC, dI) vwCl (mw g h0 b (va_up (va_up i 0 (0 : Int32)) 20 x20_13) (va_up a 19 y19_14)) _ := hP
    have hD : va_D _ (mw g h0 b (va_up (va_up i 0 (0 : Int32)) 20 x20_13) (va_up a 19 y19_14)) := hD
    refine W.eq (g2 := F0 m 35 ls []) rfl ?_
    obtain ⟨hlt_17, hly_16⟩ := hw_15
    refine lv_aload_n hx hb dX10_put_35 rfl (lv_at hl 0 rfl) ?_
    refine lv_iload hx hb dX10_put_36 (lv_at hl 4 rfl) ?_
    refine M_V ⟨hx, hb, hml, hown, hts⟩ (m_X10_laysX l dC dI sa g h0 b (va_up (va_up i 0 (0 : Int32)) 20 x20_13) (va_up a 19 y19_14) a4 _ (show 0 ≤ x20_13.toInt ∧ x20_13.toInt ≤ 1496 from ⟨by omega, by omega⟩)) (cwV 1 hts gX10_put_X10_lays rfl rfl rfl (by decide +kernel) ⟨Nat.le_of_ble_eq_true rfl, Nat.le_of_ble_eq_true rfl⟩) hP hD hK hS hA hev rfl rfl rfl rfl hl.1 rfl (Nat.le_of_ble_eq_true rfl) dX10_put_38 ⟨(Nat.le_of_ble_eq_true rfl), (Nat.le_of_ble_eq_true rfl)⟩ (fun r u H locs hw hP hD hS => ?_)
    obtain ⟨x20_18, y19_19⟩ := u
    have hw : (r = none) ∧ (x20_18.toInt = x20_13.toInt + 4 ∧ ∀ nn : Nat, x20_13 = nI nn → nn ≤ 1496 → x20_18 = nI (nn + 4) ∧ y19_19 = apF bM y19_14 nn a4 4) := hw
    obtain ⟨rfl, hw_20⟩ := hw
    have hP : va_P (dC, dI) vwCl (mw g h0 b (va_up (va_up i 0 (0 : Int32)) 20 x20_18) (va_up a 19 y19_19)) _ := hP
    have hD : va_D _ (mw g h0 b (va_up (va_up i 0 (0 : Int32)) 20 x20_18) (va_up a 19 y19_19)) := hD
    refine W.eq (g2 := F0 m 41 ls []) rfl ?_
    obtain ⟨hlt_22, hly_21⟩ := hw_20
    refine lv_aload_n hx hb dX10_put_41 rfl (lv_at hl 0 rfl) ?_
    refine lv_iload hx hb dX10_put_42 (lv_at hl 5 rfl) ?_
    refine M_V ⟨hx, hb, hml, hown, hts⟩ (m_X10_laysX l dC dI sa g h0 b (va_up (va_up i 0 (0 : Int32)) 20 x20_18) (va_up a 19 y19_19) a5 _ (show 0 ≤ x20_18.toInt ∧ x20_18.toInt ≤ 1496 from ⟨by omega, by omega⟩)) (cwV 1 hts gX10_put_X10_lays rfl rfl rfl (by decide +kernel) ⟨Nat.le_of_ble_eq_true rfl, Nat.le_of_ble_eq_true rfl⟩) hP hD hK hS hA hev rfl rfl rfl rfl hl.1 rfl (Nat.le_of_ble_eq_true rfl) dX10_put_44 ⟨(Nat.le_of_ble_eq_true rfl), (Nat.le_of_ble_eq_true rfl)⟩ (fun r u H locs hw hP hD hS => ?_)
    obtain ⟨x20_23, y19_24⟩ := u
    have hw : (r = none) ∧ (x20_23.toInt = x20_18.toInt + 4 ∧ ∀ nn : Nat, x20_18 = nI nn → nn ≤ 1496 → x20_23 = nI (nn + 4) ∧ y19_24 = apF bM y19_19 nn a5 4) := hw
    obtain ⟨rfl, hw_25⟩ := hw
    have hP : va_P (dC, dI) vwCl (mw g h0 b (va_up (va_up i 0 (0 : Int32)) 20 x20_23) (va_up a 19 y19_24)) _ := hP
    have hD : va_D _ (mw g h0 b (va_up (va_up i 0 (0 : Int32)) 20 x20_23) (va_up a 19 y19_24)) := hD
    refine W.eq (g2 := F0 m 47 ls []) rfl ?_
    obtain ⟨hlt_27, hly_26⟩ := hw_25
    refine lv_aload_n hx hb dX10_put_47 rfl (lv_at hl 0 rfl) ?_
    refine va_get (D := (dC, dI)) (ci := 10) (v := .int x20_23) (C := RX10) (T := TX10) (N := 51) hx hb hts inw_X10_put_10 hown hK hP 0 rfl rfl 20 (by decide) (hts (.fieldLink RX10 159 "VatHouseModel" "taped" "I") (List.mem_of_getElem? (i := 2) (by exact rfl))) (fun _ h9 => h9) rfl dX10_put_48 ?_
    exact M_i hx hb hr hlocks ((0 : Int32), x20_23, y19_24) hP hD hK hS ⟨⟨_, rfl, Or.inr ⟨by omega, rfl, by omega⟩⟩, fun nn h1 h2 => ⟨fun h3 => by have g1 := hly_6 nn h1 (by omega); have g2 := hly_11 (nn + 4) g1.1 (by omega); have g3 := hly_16 (nn + 8) g2.1 (by omega); have g4 := hly_21 (nn + 12) g3.1 (by omega); have g5 := hly_26 (nn + 16) g4.1 (by omega); exact ⟨g5.1, by rw [g5.2, g4.2, g3.2, g2.2, g1.2]; rfl⟩, fun h3 => absurd (by have h9 := nI_toInt (n := nn) (by omega); rw [← h1] at h9; omega) h3⟩⟩ (Nat.le_of_ble_eq_true rfl) (Nat.le_of_ble_eq_true rfl) dX10_put_51
  · have nc_2 := nle_i c_2
    have lc_2 : (1500 : Int32).toInt = 1500 := by decide
    refine lv_iconst (v := (-1)) hx hb dX10_put_18 (by decide) ?_
    exact M_i hx hb hr hlocks ((0 : Int32), (i 20), (a 19)) hP hD hK hS ⟨⟨_, rfl, Or.inl ⟨by omega, rfl, rfl⟩⟩, fun nn h1 h2 => ⟨fun h3 => absurd h3 (by have h9 := nI_toInt (n := nn) (by omega); rw [← h1] at h9; omega), fun _ => ⟨rfl, rfl⟩⟩⟩ (Nat.le_of_ble_eq_true rfl) (Nat.le_of_ble_eq_true rfl) dX10_put_19

noncomputable abbrev rm_X10_faultX : Room := { frames := 1, cells := 0, slots := 0, locals := 22 }
set_option maxHeartbeats 1000000 in
set_option maxRecDepth 100000 in
theorem m_X10_faultX (l : Launch) (dC : Nat → ClassId) (dI : Nat → Nat → Nat) (sa : Nat → Nat) (g : Nat → Nat) (h0 : Nat) (b : Nat → Nat) (i : Nat → Int32) (a : Nat → Nat → Int32) (wt : Int32) (sz : Nat) : CT l dC dI sa yX10_fault wsX10_fault rm_X10_faultX [.ref h0, .int wt] (mw g h0 b i a) (tyM g) sz (fun (r : Option Value) (x0 : Int32) => (∃ z : Int32, r = some (.int z)) ∧ ((wt = 0 ∧ x0 = 0 ∧ r = some (.int (i 23))) ∨ (wt = 1 ∧ x0 = 0 ∧ r = some (.int (i 24))) ∨ (¬ wt = 0 ∧ ¬ wt = 1 ∧ x0 = 1))) (fun (x0 : Int32) => mw g h0 b (va_up i 0 x0) a) (fun _ => []) 0 0 := by
  refine CT.start (cc := cX10_fault) (maxL := 2) (ret := (some .int)) (by decide) rfl (Nat.le_of_ble_eq_true rfl) ?_
  intro p e s m below meth c ls hst hP hK hD hev hS hl
  obtain ⟨hx, hb, hr, hml, hts, hown, hlocks, hin⟩ := hst
  have hown : s.vm.findClass RX10 = some m.cls := hown
  have hA : ∀ q : Nat, s.heap.size ≤ q → va_A (mw g h0 b i a) s.heap.size q := fun _ h => Or.inr h
  have hl : lv_has ls 2 [(0, .ref h0), (1, .int wt)] := hl
  refine lv_aload_n hx hb dX10_fault_0 rfl (lv_at hl 0 rfl) ?_
  refine lv_iconst (v := 0) hx hb dX10_fault_1 (by decide) ?_
  refine va_put (D := (dC, dI)) (ci := 10) (v := .int 0) (ty := .int) (C := RX10) (T := TX10) (N := 51) hx hb hts inw_X10_fault_10 tyX10 tyX10_ok nmX10 hown hK hP hD hS 0 rfl rfl 0 (by decide) (hts (.fieldLink RX10 105 "VatHouseModel" "thrown" "I") (List.mem_of_getElem? (i := 1) (by exact rfl))) (fun _ h9 => h9) rfl (tyX10_ok 0 (by decide)) rfl rfl (Nat.le_of_ble_eq_true rfl) dX10_fault_2 (fun H locs hP hD hS => ?_)
  have hP : va_P (dC, dI) vwCl (mw g h0 b (va_up i 0 (0 : Int32)) a) _ := hP
  have hD : va_D _ (mw g h0 b (va_up i 0 (0 : Int32)) a) := hD
  refine lv_aload_n hx hb dX10_fault_5 rfl (lv_at hl 0 rfl) ?_
  refine lv_iload_n hx hb dX10_fault_6 rfl (lv_at hl 1 rfl) ?_
  refine lv_if_eq (tgt := 15) hx hb dX10_fault_7 (by decide) (fun c_1 => ?_) (fun c_1 => ?_)
  · have nc_1 := eq_i c_1
    have lc_1 : (0 : Int32).toInt = 0 := by decide
    refine lv_iconst (v := 1) hx hb dX10_fault_15 (by decide) ?_
    refine lv_goto (tgt := 20) hx hb dX10_fault_16 (by decide) ?_
    refine lv_iconst (v := 1) hx hb dX10_fault_20 (by decide) ?_
    refine M_V ⟨hx, hb, hml, hown, hts⟩ (m_X10_rightX l dC dI sa g h0 b (va_up i 0 (0 : Int32)) a (1 : Int32) (1 : Int32) _ (by decide) rfl) (cwV 2 hts gX10_fault_X10_right rfl rfl rfl (by decide +kernel) ⟨Nat.le_of_ble_eq_true rfl, Nat.le_of_ble_eq_true rfl⟩) hP hD hK hS hA hev rfl rfl rfl rfl hl.1 rfl (Nat.le_of_ble_eq_true rfl) dX10_fault_21 ⟨(Nat.le_of_ble_eq_true rfl), (Nat.le_of_ble_eq_true rfl)⟩ (fun r u H locs hw hP hD hS => ?_)
    obtain ⟨x0_2, rfl⟩ : ∃ z, z = u := ⟨_, rfl⟩
    have hw : ((r = some (.int 0) ∧ ((1 : Int32) = 0 ∧ x0_2 = (1 : Int32))) ∨ (r = some (.int 1) ∧ (¬ (1 : Int32) = 0 ∧ x0_2 = 0))) ∧ (True) := hw
    obtain ⟨⟨rfl, hz2_4⟩ | ⟨rfl, hz2_4⟩, hw_3⟩ := hw
    · have hP : va_P (dC, dI) vwCl (mw g h0 b (va_up i 0 x0_2) a) _ := hP
      have hD : va_D _ (mw g h0 b (va_up i 0 x0_2) a) := hD
      refine W.eq (g2 := F0 m 24 ls [.int 0]) rfl ?_
      exact absurd hz2_4.1 (by decide)
    · have hP : va_P (dC, dI) vwCl (mw g h0 b (va_up i 0 x0_2) a) _ := hP
      have hD : va_D _ (mw g h0 b (va_up i 0 x0_2) a) := hD
      refine W.eq (g2 := F0 m 24 ls [.int 1]) rfl ?_
      refine lv_if_ne (tgt := 29) hx hb dX10_fault_24 (by decide) (fun _ => ?_) (fun c_5 => absurd c_5 (by decide))
      refine lv_iload_n hx hb dX10_fault_29 rfl (lv_at hl 1 rfl) ?_
      refine lv_if_ne (tgt := 40) hx hb dX10_fault_30 (by decide) (fun c_6 => ?_) (fun c_6 => ?_)
      · have nc_6 := ne_i c_6
        have lc_6 : (0 : Int32).toInt = 0 := by decide
        refine lv_aload_n hx hb dX10_fault_40 rfl (lv_at hl 0 rfl) ?_
        refine va_get (D := (dC, dI)) (ci := 10) (v := .int (i 24)) (C := RX10) (T := TX10) (N := 51) hx hb hts inw_X10_fault_10 hown hK hP 0 rfl rfl 24 (by decide) (hts (.fieldLink RX10 56 "VatHouseModel" "faultPlace" "I") (List.mem_of_getElem? (i := 3) (by exact rfl))) (fun _ h9 => h9) rfl dX10_fault_41 ?_
        exact M_i hx hb hr hlocks (x0_2) hP hD hK hS ⟨⟨_, rfl⟩, absurd c_1 c_6⟩ (Nat.le_of_ble_eq_true rfl) (Nat.le_of_ble_eq_true rfl) dX10_fault_44
      · have nc_6 := eq_i c_6
        have lc_6 : (0 : Int32).toInt = 0 := by decide
        refine lv_aload_n hx hb dX10_fault_33 rfl (lv_at hl 0 rfl) ?_
        refine va_get (D := (dC, dI)) (ci := 10) (v := .int (i 23)) (C := RX10) (T := TX10) (N := 51) hx hb hts inw_X10_fault_10 hown hK hP 0 rfl rfl 23 (by decide) (hts (.fieldLink RX10 165 "VatHouseModel" "faultKind" "I") (List.mem_of_getElem? (i := 2) (by exact rfl))) (fun _ h9 => h9) rfl dX10_fault_34 ?_
        refine lv_goto (tgt := 44) hx hb dX10_fault_37 (by decide) ?_
        exact M_i hx hb hr hlocks (x0_2) hP hD hK hS ⟨⟨_, rfl⟩, Or.inl ⟨c_1, hz2_4.2, rfl⟩⟩ (Nat.le_of_ble_eq_true rfl) (Nat.le_of_ble_eq_true rfl) dX10_fault_44
  · have nc_1 := ne_i c_1
    have lc_1 : (0 : Int32).toInt = 0 := by decide
    refine lv_iload_n hx hb dX10_fault_10 rfl (lv_at hl 1 rfl) ?_
    refine lv_iconst (v := 1) hx hb dX10_fault_11 (by decide) ?_
    refine lv_icmp_ne (tgt := 19) hx hb dX10_fault_12 (by decide) (fun c_7 => ?_) (fun c_7 => ?_)
    · have nc_7 := ne_i c_7
      have lc_7 : (1 : Int32).toInt = 1 := by decide
      refine lv_iconst (v := 0) hx hb dX10_fault_19 (by decide) ?_
      refine lv_iconst (v := 1) hx hb dX10_fault_20 (by decide) ?_
      refine M_V ⟨hx, hb, hml, hown, hts⟩ (m_X10_rightX l dC dI sa g h0 b (va_up i 0 (0 : Int32)) a (0 : Int32) (1 : Int32) _ (by decide) rfl) (cwV 2 hts gX10_fault_X10_right rfl rfl rfl (by decide +kernel) ⟨Nat.le_of_ble_eq_true rfl, Nat.le_of_ble_eq_true rfl⟩) hP hD hK hS hA hev rfl rfl rfl rfl hl.1 rfl (Nat.le_of_ble_eq_true rfl) dX10_fault_21 ⟨(Nat.le_of_ble_eq_true rfl), (Nat.le_of_ble_eq_true rfl)⟩ (fun r u H locs hw hP hD hS => ?_)
      obtain ⟨x0_8, rfl⟩ : ∃ z, z = u := ⟨_, rfl⟩
      have hw : ((r = some (.int 0) ∧ ((0 : Int32) = 0 ∧ x0_8 = (1 : Int32))) ∨ (r = some (.int 1) ∧ (¬ (0 : Int32) = 0 ∧ x0_8 = 0))) ∧ (True) := hw
      obtain ⟨⟨rfl, hz2_10⟩ | ⟨rfl, hz2_10⟩, hw_9⟩ := hw
      · have hP : va_P (dC, dI) vwCl (mw g h0 b (va_up i 0 x0_8) a) _ := hP
        have hD : va_D _ (mw g h0 b (va_up i 0 x0_8) a) := hD
        refine W.eq (g2 := F0 m 24 ls [.int 0]) rfl ?_
        refine lv_if_ne (tgt := 29) hx hb dX10_fault_24 (by decide) (fun c_11 => absurd c_11 (by decide)) (fun _ => ?_)
        refine lv_iconst (v := 0) hx hb dX10_fault_27 (by decide) ?_
        exact M_i hx hb hr hlocks (x0_8) hP hD hK hS ⟨⟨_, rfl⟩, Or.inr (Or.inr ⟨c_1, c_7, hz2_10.2⟩)⟩ (Nat.le_of_ble_eq_true rfl) (Nat.le_of_ble_eq_true rfl) dX10_fault_28
      · have hP : va_P (dC, dI) vwCl (mw g h0 b (va_up i 0 x0_8) a) _ := hP
        have hD : va_D _ (mw g h0 b (va_up i 0 x0_8) a) := hD
        refine W.eq (g2 := F0 m 24 ls [.int 1]) rfl ?_
        exact absurd rfl hz2_10.1
    · have nc_7 := eq_i c_7
      have lc_7 : (1 : Int32).toInt = 1 := by decide
      refine lv_iconst (v := 1) hx hb dX10_fault_15 (by decide) ?_
      refine lv_goto (tgt := 20) hx hb dX10_fault_16 (by decide) ?_
      refine lv_iconst (v := 1) hx hb dX10_fault_20 (by decide) ?_
      refine M_V ⟨hx, hb, hml, hown, hts⟩ (m_X10_rightX l dC dI sa g h0 b (va_up i 0 (0 : Int32)) a (1 : Int32) (1 : Int32) _ (by decide) rfl) (cwV 2 hts gX10_fault_X10_right rfl rfl rfl (by decide +kernel) ⟨Nat.le_of_ble_eq_true rfl, Nat.le_of_ble_eq_true rfl⟩) hP hD hK hS hA hev rfl rfl rfl rfl hl.1 rfl (Nat.le_of_ble_eq_true rfl) dX10_fault_21 ⟨(Nat.le_of_ble_eq_true rfl), (Nat.le_of_ble_eq_true rfl)⟩ (fun r u H locs hw hP hD hS => ?_)
      obtain ⟨x0_12, rfl⟩ : ∃ z, z = u := ⟨_, rfl⟩
      have hw : ((r = some (.int 0) ∧ ((1 : Int32) = 0 ∧ x0_12 = (1 : Int32))) ∨ (r = some (.int 1) ∧ (¬ (1 : Int32) = 0 ∧ x0_12 = 0))) ∧ (True) := hw
      obtain ⟨⟨rfl, hz2_14⟩ | ⟨rfl, hz2_14⟩, hw_13⟩ := hw
      · have hP : va_P (dC, dI) vwCl (mw g h0 b (va_up i 0 x0_12) a) _ := hP
        have hD : va_D _ (mw g h0 b (va_up i 0 x0_12) a) := hD
        refine W.eq (g2 := F0 m 24 ls [.int 0]) rfl ?_
        exact absurd hz2_14.1 (by decide)
      · have hP : va_P (dC, dI) vwCl (mw g h0 b (va_up i 0 x0_12) a) _ := hP
        have hD : va_D _ (mw g h0 b (va_up i 0 x0_12) a) := hD
        refine W.eq (g2 := F0 m 24 ls [.int 1]) rfl ?_
        refine lv_if_ne (tgt := 29) hx hb dX10_fault_24 (by decide) (fun _ => ?_) (fun c_15 => absurd c_15 (by decide))
        refine lv_iload_n hx hb dX10_fault_29 rfl (lv_at hl 1 rfl) ?_
        refine lv_if_ne (tgt := 40) hx hb dX10_fault_30 (by decide) (fun c_16 => ?_) (fun c_16 => ?_)
        · have nc_16 := ne_i c_16
          have lc_16 : (0 : Int32).toInt = 0 := by decide
          refine lv_aload_n hx hb dX10_fault_40 rfl (lv_at hl 0 rfl) ?_
          refine va_get (D := (dC, dI)) (ci := 10) (v := .int (i 24)) (C := RX10) (T := TX10) (N := 51) hx hb hts inw_X10_fault_10 hown hK hP 0 rfl rfl 24 (by decide) (hts (.fieldLink RX10 56 "VatHouseModel" "faultPlace" "I") (List.mem_of_getElem? (i := 3) (by exact rfl))) (fun _ h9 => h9) rfl dX10_fault_41 ?_
          exact M_i hx hb hr hlocks (x0_12) hP hD hK hS ⟨⟨_, rfl⟩, Or.inr (Or.inl ⟨c_7, hz2_14.2, rfl⟩)⟩ (Nat.le_of_ble_eq_true rfl) (Nat.le_of_ble_eq_true rfl) dX10_fault_44
        · have nc_16 := eq_i c_16
          have lc_16 : (0 : Int32).toInt = 0 := by decide
          refine lv_aload_n hx hb dX10_fault_33 rfl (lv_at hl 0 rfl) ?_
          refine va_get (D := (dC, dI)) (ci := 10) (v := .int (i 23)) (C := RX10) (T := TX10) (N := 51) hx hb hts inw_X10_fault_10 hown hK hP 0 rfl rfl 23 (by decide) (hts (.fieldLink RX10 165 "VatHouseModel" "faultKind" "I") (List.mem_of_getElem? (i := 2) (by exact rfl))) (fun _ h9 => h9) rfl dX10_fault_34 ?_
          refine lv_goto (tgt := 44) hx hb dX10_fault_37 (by decide) ?_
          exact M_i hx hb hr hlocks (x0_12) hP hD hK hS ⟨⟨_, rfl⟩, absurd c_16 c_1⟩ (Nat.le_of_ble_eq_true rfl) (Nat.le_of_ble_eq_true rfl) dX10_fault_44

noncomputable abbrev rm_X10_thrownX : Room := { frames := 0, cells := 0, slots := 0, locals := 0 }
theorem inw_X10_thrown_10 : ∀ w ∈ wsX100, w ∈ wsX10_thrown := fun _ h => List.mem_cons_of_mem _ (List.mem_append_right _ h)
set_option maxHeartbeats 1000000 in
set_option maxRecDepth 100000 in
theorem m_X10_thrownX (l : Launch) (dC : Nat → ClassId) (dI : Nat → Nat → Nat) (sa : Nat → Nat) (g : Nat → Nat) (h0 : Nat) (b : Nat → Nat) (i : Nat → Int32) (a : Nat → Nat → Int32) (sz : Nat) : CT l dC dI sa yX10_thrown wsX10_thrown rm_X10_thrownX [.ref h0] (mw g h0 b i a) (tyM g) sz (fun (r : Option Value) (_ : Unit) => (∃ z : Int32, r = some (.int z) ∧ (z = (i 0))) ∧ (True)) (fun (_ : Unit) => mw g h0 b i a) (fun _ => []) 0 0 := by
  refine CT.start (cc := cX10_thrown) (maxL := 1) (ret := (some .int)) (by decide) rfl (Nat.le_of_ble_eq_true rfl) ?_
  intro p e s m below meth c ls hst hP hK hD hev hS hl
  obtain ⟨hx, hb, hr, hml, hts, hown, hlocks, hin⟩ := hst
  have hown : s.vm.findClass RX10 = some m.cls := hown
  have hA : ∀ q : Nat, s.heap.size ≤ q → va_A (mw g h0 b i a) s.heap.size q := fun _ h => Or.inr h
  have hl : lv_has ls 1 [(0, .ref h0)] := hl
  refine lv_aload_n hx hb dX10_thrown_0 rfl (lv_at hl 0 rfl) ?_
  refine va_get (D := (dC, dI)) (ci := 10) (v := .int (i 0)) (C := RX10) (T := TX10) (N := 51) hx hb hts inw_X10_thrown_10 hown hK hP 0 rfl rfl 0 (by decide) (hts (.fieldLink RX10 105 "VatHouseModel" "thrown" "I") (List.mem_of_getElem? (i := 1) (by exact rfl))) (fun _ h9 => h9) rfl dX10_thrown_1 ?_
  exact M_i hx hb hr hlocks () hP hD hK hS ⟨⟨_, rfl, rfl⟩, trivial⟩ (Nat.le_of_ble_eq_true rfl) (Nat.le_of_ble_eq_true rfl) dX10_thrown_4
