theorem mulc_i {x z k : Int32} {q : Int} (hz : z = k * x) (hk : k.toInt = q) (h1 : -2147483648 ≤ q * x.toInt) (h2 : q * x.toInt < 2147483648) : z.toInt = q * x.toInt := by
  subst hk
  exact mul_i hz h1 h2
theorem up_rg {ii z : Int32} {n k : Nat} (hk : k < 2 ^ 31) (hm : ∃ q : Nat, ii = nI q ∧ q ≤ k ∧ k < q + n) (hz : z ≤ nI k) (h : ¬ z ≤ ii) : 0 ≤ ii.toInt ∧ ii.toInt < k := by
  obtain ⟨a, hii, h1, h2⟩ := hm
  have h4 := up_lt hk hii h1 hz h
  rw [hii, nI_toInt (by omega)]
  omega
theorem idx_lt {x : Int32} {n : Nat} (h : vp_in x n) : x.toNatClampNeg < n := Nat.not_le.mp fun q => h (Or.inr q)
theorem pl_q {ii mo : Int32} {n : Nat} (hm : ∃ q : Nat, ii = nI q ∧ q ≤ 4 ∧ 4 < q + n) (h : ¬ mo < ii) (h3 : mo.toInt ≤ 3) : ∃ q : Nat, ii = nI q ∧ q ≤ 3 := by
  obtain ⟨q, h1, h2, -⟩ := hm
  refine ⟨q, h1, ?_⟩
  rw [Int32.lt_iff_toInt_lt, h1, nI_toInt (by omega)] at h
  omega
theorem pl_nx {ii mo : Int32} {n : Nat} (hm : ∃ q : Nat, ii = nI q ∧ q ≤ 4 ∧ 4 < q + (n + 1)) (h : ¬ mo < ii) (h3 : mo.toInt ≤ 3) : ∃ q : Nat, ii + 1 = nI q ∧ q ≤ 4 ∧ 4 < q + n := by
  obtain ⟨q, h1, h2⟩ := pl_q hm h h3
  obtain ⟨q', h1', h2', h3'⟩ := hm
  have : q = q' := (nI_eq (by omega) (by omega)).mp (h1.symm.trans h1')
  subst this
  exact ⟨q + 1, by rw [h1]; exact nI_1 q, by omega, by omega⟩
/-- a link: none, or a node that is there, at that depth -/
def lk (V : Nat → Prop) (dp : Nat → Nat) (d : Nat) (x : Int32) : Prop := x = -1 ∨ ∃ q : Nat, x = nI q ∧ V q ∧ dp q = d
/-- the nodes: kinds, numbers, links and depths -/
def ND (V : Nat → Prop) (dp : Nat → Nat) (kd on inr oth nx : Nat → Int32) : Prop := ∀ k : Nat, V k → k < 2700 ∧ dp k ≤ 8 ∧ (kd k = 0 ∨ kd k = 4 ∨ kd k = 5 ∨ kd k = 9 → 0 ≤ (on k).toInt ∧ (on k).toInt ≤ 5) ∧ lk V dp (dp k + 1) (inr k) ∧ lk V dp (dp k + 1) (oth k) ∧ lk V dp (dp k) (nx k)
section NDS
variable {V : Nat → Prop} {dp : Nat → Nat} {kd on inr oth nx : Nat → Int32}
theorem ND.one (h : ND V dp kd on inr oth nx) {q : Nat} (hV : V q) {x z zk : Int32} (hk : x.toNatClampNeg = q) (ez : z = on x.toNatClampNeg) (ek : zk = kd x.toNatClampNeg) (hz : zk = 0 ∨ zk = 4 ∨ zk = 5 ∨ zk = 9) : vp_in z 6 := by
  subst hk
  have h1 := (h _ hV).2.2.1 (by rw [← ek]; exact hz)
  rw [ez]
  exact in_i h1.1 (by omega)
theorem lk.node {d : Nat} {x : Int32} (h : lk V dp d x) (hn : ¬ x = -1) : ∃ q : Nat, x = nI q ∧ V q ∧ dp q = d := h.resolve_left hn
theorem lk.in (hN : ND V dp kd on inr oth nx) {d : Nat} {x : Int32} (h : lk V dp d x) (hn : ¬ x = -1) : vp_in x 2700 := by
  obtain ⟨q, h1, h2, -⟩ := h.node hn
  rw [h1]
  exact vp_in_nI (hN q h2).1 (by decide)
theorem lk.next (hN : ND V dp kd on inr oth nx) {d : Nat} {x z : Int32} (h : lk V dp d x) (hn : ¬ x = -1) (hz : z = nx x.toNatClampNeg) : lk V dp d z := by
  obtain ⟨q, h1, h2, h3⟩ := h.node hn
  have h4 := (hN q h2).1
  rw [hz, h1, nI_clamp (by omega), ← h3]
  exact (hN q h2).2.2.2.2.2
end NDS

abbrev rm_X10_keeps : Room := { frames := 0, cells := 0, slots := 0, locals := 0 }
theorem inw_X10_keeps_10 : ∀ w ∈ wsX100, w ∈ wsX10_keeps := by decide +kernel
set_option maxHeartbeats 1000000 in
set_option maxRecDepth 100000 in
theorem m_X10_keeps (l : Launch) (dC : Nat → ClassId) (dI : Nat → Nat → Nat) (sa : Nat → Nat) (g : Nat → Nat) (h0 : Nat) (b : Nat → Nat) (i : Nat → Int32) (a : Nat → Nat → Int32) (de : Int32) (ck : Int32) (sz : Nat) (hde : 0 ≤ de.toInt ∧ de.toInt ≤ 3) (hc30 : vp_in ck 30) : CT l dC dI sa yX10_keeps wsX10_keeps rm_X10_keeps [.ref h0, .int de, .int ck] (mw g h0 b i a) (tyM g) sz (fun (r : Option Value) (y50 : (Nat → Int32)) => (r = none) ∧ (True)) (fun (y50 : (Nat → Int32)) => mw g h0 b i (va_up a 50 y50)) (fun _ => []) 0 0 := by
  refine CT.start (cc := cX10_keeps) (maxL := 5) (ret := none) (by decide) rfl (Nat.le_of_ble_eq_true rfl) ?_
  intro p e s m below meth c ls hst hP hK hD hev hS hl
  obtain ⟨hx, hb, hr, hml, hts, hown, hlocks, hin⟩ := hst
  have hown : s.vm.findClass RX10 = some m.cls := hown
  have hA : ∀ q : Nat, s.heap.size ≤ q → va_A (mw g h0 b i a) s.heap.size q := fun _ h => Or.inr h
  have hl : lv_has ls 5 [(0, .ref h0), (1, .int de), (2, .int ck)] := hl
  refine lv_bipush (v := 26) hx hb dX10_keeps_0 (by decide) ?_
  refine lv_iload_n hx hb dX10_keeps_2 rfl (lv_at hl 1 rfl) ?_
  refine lv_imul hx hb dX10_keeps_3 ?_
  refine lv_topi (fun z_1 ez_1 => ?_)
  refine lv_istore_n (lv' := [(3, .int z_1), (0, .ref h0), (1, .int de), (2, .int ck)]) hx hb dX10_keeps_4 rfl hl (by decide) rfl (fun ls hl => ?_)
  refine lv_iconst (v := 0) hx hb dX10_keeps_5 (by decide) ?_
  refine lv_istore (lv' := [(4, .int 0), (3, .int z_1), (0, .ref h0), (1, .int de), (2, .int ck)]) hx hb dX10_keeps_6 hl (by decide) rfl (fun ls hl => ?_)
  have lp : ∀ (n : Nat) (ii : Int32) (l50 : Nat → Int32) (H : Heap) (locs : List Loc) (ls : Array Slot), (∃ q : Nat, ii = nI q ∧ q ≤ 6 ∧ 6 < q + n) → va_P (dC, dI) vwCl (mw g h0 b i (va_up a 50 l50)) H → va_D (va_A (mw g h0 b i a) s.heap.size) (mw g h0 b i (va_up a 50 l50)) → va_S (va_A (mw g h0 b i a) s.heap.size) s.heap H locs → lv_has ls 5 [(4, .int ii), (3, .int z_1), (0, .ref h0), (1, .int de), (2, .int ck)] → W p l e rm_X10_keeps s m [.ref h0, .int de, .int ck].toArray below meth c H locs 0 0 (MQ below (Qg (fun (r : Option Value) (y50 : (Nat → Int32)) => (r = none) ∧ (True)) (fun u t => QW dC dI (va_A (mw g h0 b i a) s.heap.size) ((fun (y50 : (Nat → Int32)) => mw g h0 b i (va_up a 50 y50)) u) [] t) (va_A (mw g h0 b i a) s.heap.size)) [.ref h0, .int de, .int ck].toArray s 0 0 (va_A (mw g h0 b i a) s.heap.size)) (F0 m 8 ls []) := by
    intro n
    induction n with
    | zero => intro ii l50 H locs ls hm  hP hD hS hl; exact absurd hm (by rintro ⟨q, -, h1, h2⟩; omega)
    | succ n ih =>
      intro ii l50 H locs ls hm  hP hD hS hl
      refine lv_iload hx hb dX10_keeps_8 (lv_at hl 0 rfl) ?_
      refine lv_bipush (v := 6) hx hb dX10_keeps_10 (by decide) ?_
      refine lv_icmp_ge (tgt := 99) hx hb dX10_keeps_12 (by decide) (fun c_2 => ?_) (fun c_2 => ?_)
      · have nc_2 := le_i c_2
        have lc_2 : (6 : Int32).toInt = 6 := by decide
        refine lv_aload_n hx hb dX10_keeps_99 rfl (lv_at hl 2 rfl) ?_
        refine va_get (D := (dC, dI)) (ci := 10) (v := .ref (b 50)) (C := RX10) (T := TX10) (N := 51) hx hb hts inw_X10_keeps_10 hown hK hP 0 rfl rfl 50 (by decide) (hts (.fieldLink RX10 102 "VatHouseModel" "then" "[I") (by decide +kernel)) (fun _ h9 => h9) rfl dX10_keeps_100 ?_
        refine lv_iload_n hx hb dX10_keeps_103 rfl (lv_at hl 1 rfl) ?_
        refine lv_bipush (v := 24) hx hb dX10_keeps_104 (by decide) ?_
        refine lv_iadd hx hb dX10_keeps_106 ?_
        refine lv_topi (fun z_3 ez_3 => ?_)
        refine lv_aload_n hx hb dX10_keeps_107 rfl (lv_at hl 2 rfl) ?_
        refine va_get (D := (dC, dI)) (ci := 10) (v := .ref (b 14)) (C := RX10) (T := TX10) (N := 51) hx hb hts inw_X10_keeps_10 hown hK hP 0 rfl rfl 14 (by decide) (hts (.fieldLink RX10 38 "VatHouseModel" "loose" "[I") (by decide +kernel)) (fun _ h9 => h9) rfl dX10_keeps_108 ?_
        refine lv_iload_n hx hb dX10_keeps_111 rfl (lv_at hl 4 rfl) ?_
        refine va_iald hx hb hK hP 10 9 rfl rfl (by assumption) dX10_keeps_112 ?_
        refine lv_topi (fun z_4 ez_4 => ?_)
        have ez_4 : z_4 = (a 14) ck.toNatClampNeg := ez_4
        have t26 : (26 : Int32).toInt = 26 := by decide
        have tz_1 := mulc_i ez_1 (by decide : (26 : Int32).toInt = 26) (by omega) (by omega)
        have t24 : (24 : Int32).toInt = 24 := by decide
        have tz_3 := add_i ez_3 (by omega) (by omega)
        refine va_iast hx hb hK hP hD hS 29 28 rfl rfl (in_i (by omega) (by omega)) dX10_keeps_113 (fun H locs hP hD hS => ?_)
        have hP : va_P (dC, dI) vwCl (mw g h0 b i (va_up a 50 (upd l50 z_3.toNatClampNeg z_4))) _ := hP
        have hD : va_D _ (mw g h0 b i (va_up a 50 (upd l50 z_3.toNatClampNeg z_4))) := hD
        obtain ⟨f_5, ef_5⟩ : ∃ z, z = (upd l50 z_3.toNatClampNeg z_4) := ⟨_, rfl⟩
        rw [← ef_5] at hP hD
        refine lv_aload_n hx hb dX10_keeps_114 rfl (lv_at hl 2 rfl) ?_
        refine va_get (D := (dC, dI)) (ci := 10) (v := .ref (b 50)) (C := RX10) (T := TX10) (N := 51) hx hb hts inw_X10_keeps_10 hown hK hP 0 rfl rfl 50 (by decide) (hts (.fieldLink RX10 102 "VatHouseModel" "then" "[I") (by decide +kernel)) (fun _ h9 => h9) rfl dX10_keeps_115 ?_
        refine lv_iload_n hx hb dX10_keeps_118 rfl (lv_at hl 1 rfl) ?_
        refine lv_bipush (v := 25) hx hb dX10_keeps_119 (by decide) ?_
        refine lv_iadd hx hb dX10_keeps_121 ?_
        refine lv_topi (fun z_6 ez_6 => ?_)
        refine lv_aload_n hx hb dX10_keeps_122 rfl (lv_at hl 2 rfl) ?_
        refine va_get (D := (dC, dI)) (ci := 10) (v := .ref (b 15)) (C := RX10) (T := TX10) (N := 51) hx hb hts inw_X10_keeps_10 hown hK hP 0 rfl rfl 15 (by decide) (hts (.fieldLink RX10 41 "VatHouseModel" "fast" "[I") (by decide +kernel)) (fun _ h9 => h9) rfl dX10_keeps_123 ?_
        refine lv_iload_n hx hb dX10_keeps_126 rfl (lv_at hl 4 rfl) ?_
        refine va_iald hx hb hK hP 11 10 rfl rfl (by assumption) dX10_keeps_127 ?_
        refine lv_topi (fun z_7 ez_7 => ?_)
        have ez_7 : z_7 = (a 15) ck.toNatClampNeg := ez_7
        have t26 : (26 : Int32).toInt = 26 := by decide
        have tz_1 := mulc_i ez_1 (by decide : (26 : Int32).toInt = 26) (by omega) (by omega)
        have t25 : (25 : Int32).toInt = 25 := by decide
        have tz_6 := add_i ez_6 (by omega) (by omega)
        refine va_iast hx hb hK hP hD hS 29 28 rfl rfl (in_i (by omega) (by omega)) dX10_keeps_128 (fun H locs hP hD hS => ?_)
        have hP : va_P (dC, dI) vwCl (mw g h0 b i (va_up a 50 (upd f_5 z_6.toNatClampNeg z_7))) _ := hP
        have hD : va_D _ (mw g h0 b i (va_up a 50 (upd f_5 z_6.toNatClampNeg z_7))) := hD
        obtain ⟨f_8, ef_8⟩ : ∃ z, z = (upd f_5 z_6.toNatClampNeg z_7) := ⟨_, rfl⟩
        rw [← ef_8] at hP hD
        exact M_v hx hb hr hlocks (f_8) hP hD hK hS ⟨rfl, trivial⟩ (Nat.le_of_ble_eq_true rfl) (Nat.le_of_ble_eq_true rfl) dX10_keeps_129
      · have nc_2 := nle_i c_2
        have lc_2 : (6 : Int32).toInt = 6 := by decide
        refine lv_aload_n hx hb dX10_keeps_15 rfl (lv_at hl 2 rfl) ?_
        refine va_get (D := (dC, dI)) (ci := 10) (v := .ref (b 50)) (C := RX10) (T := TX10) (N := 51) hx hb hts inw_X10_keeps_10 hown hK hP 0 rfl rfl 50 (by decide) (hts (.fieldLink RX10 102 "VatHouseModel" "then" "[I") (by decide +kernel)) (fun _ h9 => h9) rfl dX10_keeps_16 ?_
        refine lv_iload_n hx hb dX10_keeps_19 rfl (lv_at hl 1 rfl) ?_
        refine lv_iconst (v := 4) hx hb dX10_keeps_20 (by decide) ?_
        refine lv_iload hx hb dX10_keeps_21 (lv_at hl 0 rfl) ?_
        refine lv_imul hx hb dX10_keeps_23 ?_
        refine lv_topi (fun z_9 ez_9 => ?_)
        refine lv_iadd hx hb dX10_keeps_24 ?_
        refine lv_topi (fun z_10 ez_10 => ?_)
        refine lv_aload_n hx hb dX10_keeps_25 rfl (lv_at hl 2 rfl) ?_
        refine va_get (D := (dC, dI)) (ci := 10) (v := .ref (b 4)) (C := RX10) (T := TX10) (N := 51) hx hb hts inw_X10_keeps_10 hown hK hP 0 rfl rfl 4 (by decide) (hts (.fieldLink RX10 7 "VatHouseModel" "grains" "[I") (by decide +kernel)) (fun _ h9 => h9) rfl dX10_keeps_26 ?_
        refine lv_iload hx hb dX10_keeps_29 (lv_at hl 0 rfl) ?_
        refine va_iald hx hb hK hP 1 0 rfl rfl (up_in (by decide) hm (by decide) c_2 (by decide) (by decide)) dX10_keeps_31 ?_
        refine lv_topi (fun z_11 ez_11 => ?_)
        have ez_11 : z_11 = (a 4) ii.toNatClampNeg := ez_11
        have hrg := up_rg (by decide) hm (by decide) c_2
        have t26 : (26 : Int32).toInt = 26 := by decide
        have tz_1 := mulc_i ez_1 (by decide : (26 : Int32).toInt = 26) (by omega) (by omega)
        have t4 : (4 : Int32).toInt = 4 := by decide
        have tz_9 := mulc_i ez_9 (by decide : (4 : Int32).toInt = 4) (by omega) (by omega)
        have tz_10 := add_i ez_10 (by omega) (by omega)
        refine va_iast hx hb hK hP hD hS 29 28 rfl rfl (in_i (by omega) (by omega)) dX10_keeps_32 (fun H locs hP hD hS => ?_)
        have hP : va_P (dC, dI) vwCl (mw g h0 b i (va_up a 50 (upd l50 z_10.toNatClampNeg z_11))) _ := hP
        have hD : va_D _ (mw g h0 b i (va_up a 50 (upd l50 z_10.toNatClampNeg z_11))) := hD
        obtain ⟨f_12, ef_12⟩ : ∃ z, z = (upd l50 z_10.toNatClampNeg z_11) := ⟨_, rfl⟩
        rw [← ef_12] at hP hD
        refine lv_aload_n hx hb dX10_keeps_33 rfl (lv_at hl 2 rfl) ?_
        refine va_get (D := (dC, dI)) (ci := 10) (v := .ref (b 50)) (C := RX10) (T := TX10) (N := 51) hx hb hts inw_X10_keeps_10 hown hK hP 0 rfl rfl 50 (by decide) (hts (.fieldLink RX10 102 "VatHouseModel" "then" "[I") (by decide +kernel)) (fun _ h9 => h9) rfl dX10_keeps_34 ?_
        refine lv_iload_n hx hb dX10_keeps_37 rfl (lv_at hl 1 rfl) ?_
        refine lv_iconst (v := 4) hx hb dX10_keeps_38 (by decide) ?_
        refine lv_iload hx hb dX10_keeps_39 (lv_at hl 0 rfl) ?_
        refine lv_imul hx hb dX10_keeps_41 ?_
        refine lv_topi (fun z_13 ez_13 => ?_)
        refine lv_iadd hx hb dX10_keeps_42 ?_
        refine lv_topi (fun z_14 ez_14 => ?_)
        refine lv_iconst (v := 1) hx hb dX10_keeps_43 (by decide) ?_
        refine lv_iadd hx hb dX10_keeps_44 ?_
        refine lv_topi (fun z_15 ez_15 => ?_)
        refine lv_aload_n hx hb dX10_keeps_45 rfl (lv_at hl 2 rfl) ?_
        refine va_get (D := (dC, dI)) (ci := 10) (v := .ref (b 5)) (C := RX10) (T := TX10) (N := 51) hx hb hts inw_X10_keeps_10 hown hK hP 0 rfl rfl 5 (by decide) (hts (.fieldLink RX10 13 "VatHouseModel" "food" "[I") (by decide +kernel)) (fun _ h9 => h9) rfl dX10_keeps_46 ?_
        refine lv_iload hx hb dX10_keeps_49 (lv_at hl 0 rfl) ?_
        refine va_iald hx hb hK hP 2 1 rfl rfl (up_in (by decide) hm (by decide) c_2 (by decide) (by decide)) dX10_keeps_51 ?_
        refine lv_topi (fun z_16 ez_16 => ?_)
        have ez_16 : z_16 = (a 5) ii.toNatClampNeg := ez_16
        have hrg := up_rg (by decide) hm (by decide) c_2
        have t26 : (26 : Int32).toInt = 26 := by decide
        have tz_1 := mulc_i ez_1 (by decide : (26 : Int32).toInt = 26) (by omega) (by omega)
        have t4 : (4 : Int32).toInt = 4 := by decide
        have tz_13 := mulc_i ez_13 (by decide : (4 : Int32).toInt = 4) (by omega) (by omega)
        have tz_14 := add_i ez_14 (by omega) (by omega)
        have t1 : (1 : Int32).toInt = 1 := by decide
        have tz_15 := add_i ez_15 (by omega) (by omega)
        refine va_iast hx hb hK hP hD hS 29 28 rfl rfl (in_i (by omega) (by omega)) dX10_keeps_52 (fun H locs hP hD hS => ?_)
        have hP : va_P (dC, dI) vwCl (mw g h0 b i (va_up a 50 (upd f_12 z_15.toNatClampNeg z_16))) _ := hP
        have hD : va_D _ (mw g h0 b i (va_up a 50 (upd f_12 z_15.toNatClampNeg z_16))) := hD
        obtain ⟨f_17, ef_17⟩ : ∃ z, z = (upd f_12 z_15.toNatClampNeg z_16) := ⟨_, rfl⟩
        rw [← ef_17] at hP hD
        refine lv_aload_n hx hb dX10_keeps_53 rfl (lv_at hl 2 rfl) ?_
        refine va_get (D := (dC, dI)) (ci := 10) (v := .ref (b 50)) (C := RX10) (T := TX10) (N := 51) hx hb hts inw_X10_keeps_10 hown hK hP 0 rfl rfl 50 (by decide) (hts (.fieldLink RX10 102 "VatHouseModel" "then" "[I") (by decide +kernel)) (fun _ h9 => h9) rfl dX10_keeps_54 ?_
        refine lv_iload_n hx hb dX10_keeps_57 rfl (lv_at hl 1 rfl) ?_
        refine lv_iconst (v := 4) hx hb dX10_keeps_58 (by decide) ?_
        refine lv_iload hx hb dX10_keeps_59 (lv_at hl 0 rfl) ?_
        refine lv_imul hx hb dX10_keeps_61 ?_
        refine lv_topi (fun z_18 ez_18 => ?_)
        refine lv_iadd hx hb dX10_keeps_62 ?_
        refine lv_topi (fun z_19 ez_19 => ?_)
        refine lv_iconst (v := 2) hx hb dX10_keeps_63 (by decide) ?_
        refine lv_iadd hx hb dX10_keeps_64 ?_
        refine lv_topi (fun z_20 ez_20 => ?_)
        refine lv_aload_n hx hb dX10_keeps_65 rfl (lv_at hl 2 rfl) ?_
        refine va_get (D := (dC, dI)) (ci := 10) (v := .ref (b 6)) (C := RX10) (T := TX10) (N := 51) hx hb hts inw_X10_keeps_10 hown hK hP 0 rfl rfl 6 (by decide) (hts (.fieldLink RX10 16 "VatHouseModel" "minutes" "[I") (by decide +kernel)) (fun _ h9 => h9) rfl dX10_keeps_66 ?_
        refine lv_iload hx hb dX10_keeps_69 (lv_at hl 0 rfl) ?_
        refine va_iald hx hb hK hP 3 2 rfl rfl (up_in (by decide) hm (by decide) c_2 (by decide) (by decide)) dX10_keeps_71 ?_
        refine lv_topi (fun z_21 ez_21 => ?_)
        have ez_21 : z_21 = (a 6) ii.toNatClampNeg := ez_21
        have hrg := up_rg (by decide) hm (by decide) c_2
        have t26 : (26 : Int32).toInt = 26 := by decide
        have tz_1 := mulc_i ez_1 (by decide : (26 : Int32).toInt = 26) (by omega) (by omega)
        have t4 : (4 : Int32).toInt = 4 := by decide
        have tz_18 := mulc_i ez_18 (by decide : (4 : Int32).toInt = 4) (by omega) (by omega)
        have tz_19 := add_i ez_19 (by omega) (by omega)
        have t2 : (2 : Int32).toInt = 2 := by decide
        have tz_20 := add_i ez_20 (by omega) (by omega)
        refine va_iast hx hb hK hP hD hS 29 28 rfl rfl (in_i (by omega) (by omega)) dX10_keeps_72 (fun H locs hP hD hS => ?_)
        have hP : va_P (dC, dI) vwCl (mw g h0 b i (va_up a 50 (upd f_17 z_20.toNatClampNeg z_21))) _ := hP
        have hD : va_D _ (mw g h0 b i (va_up a 50 (upd f_17 z_20.toNatClampNeg z_21))) := hD
        obtain ⟨f_22, ef_22⟩ : ∃ z, z = (upd f_17 z_20.toNatClampNeg z_21) := ⟨_, rfl⟩
        rw [← ef_22] at hP hD
        refine lv_aload_n hx hb dX10_keeps_73 rfl (lv_at hl 2 rfl) ?_
        refine va_get (D := (dC, dI)) (ci := 10) (v := .ref (b 50)) (C := RX10) (T := TX10) (N := 51) hx hb hts inw_X10_keeps_10 hown hK hP 0 rfl rfl 50 (by decide) (hts (.fieldLink RX10 102 "VatHouseModel" "then" "[I") (by decide +kernel)) (fun _ h9 => h9) rfl dX10_keeps_74 ?_
        refine lv_iload_n hx hb dX10_keeps_77 rfl (lv_at hl 1 rfl) ?_
        refine lv_iconst (v := 4) hx hb dX10_keeps_78 (by decide) ?_
        refine lv_iload hx hb dX10_keeps_79 (lv_at hl 0 rfl) ?_
        refine lv_imul hx hb dX10_keeps_81 ?_
        refine lv_topi (fun z_23 ez_23 => ?_)
        refine lv_iadd hx hb dX10_keeps_82 ?_
        refine lv_topi (fun z_24 ez_24 => ?_)
        refine lv_iconst (v := 3) hx hb dX10_keeps_83 (by decide) ?_
        refine lv_iadd hx hb dX10_keeps_84 ?_
        refine lv_topi (fun z_25 ez_25 => ?_)
        refine lv_aload_n hx hb dX10_keeps_85 rfl (lv_at hl 2 rfl) ?_
        refine va_get (D := (dC, dI)) (ci := 10) (v := .ref (b 7)) (C := RX10) (T := TX10) (N := 51) hx hb hts inw_X10_keeps_10 hown hK hP 0 rfl rfl 7 (by decide) (hts (.fieldLink RX10 19 "VatHouseModel" "state" "[I") (by decide +kernel)) (fun _ h9 => h9) rfl dX10_keeps_86 ?_
        refine lv_iload hx hb dX10_keeps_89 (lv_at hl 0 rfl) ?_
        refine va_iald hx hb hK hP 4 3 rfl rfl (up_in (by decide) hm (by decide) c_2 (by decide) (by decide)) dX10_keeps_91 ?_
        refine lv_topi (fun z_26 ez_26 => ?_)
        have ez_26 : z_26 = (a 7) ii.toNatClampNeg := ez_26
        have hrg := up_rg (by decide) hm (by decide) c_2
        have t26 : (26 : Int32).toInt = 26 := by decide
        have tz_1 := mulc_i ez_1 (by decide : (26 : Int32).toInt = 26) (by omega) (by omega)
        have t4 : (4 : Int32).toInt = 4 := by decide
        have tz_23 := mulc_i ez_23 (by decide : (4 : Int32).toInt = 4) (by omega) (by omega)
        have tz_24 := add_i ez_24 (by omega) (by omega)
        have t3 : (3 : Int32).toInt = 3 := by decide
        have tz_25 := add_i ez_25 (by omega) (by omega)
        refine va_iast hx hb hK hP hD hS 29 28 rfl rfl (in_i (by omega) (by omega)) dX10_keeps_92 (fun H locs hP hD hS => ?_)
        have hP : va_P (dC, dI) vwCl (mw g h0 b i (va_up a 50 (upd f_22 z_25.toNatClampNeg z_26))) _ := hP
        have hD : va_D _ (mw g h0 b i (va_up a 50 (upd f_22 z_25.toNatClampNeg z_26))) := hD
        obtain ⟨f_27, ef_27⟩ : ∃ z, z = (upd f_22 z_25.toNatClampNeg z_26) := ⟨_, rfl⟩
        rw [← ef_27] at hP hD
        refine lv_iinc (v := (ii + 1)) (lv' := [(4, .int (ii + 1)), (3, .int z_1), (0, .ref h0), (1, .int de), (2, .int ck)]) hx hb dX10_keeps_93 hl (k := 0) rfl rfl (by decide) rfl (fun ls hl => ?_)
        refine lv_goto (tgt := 8) hx hb dX10_keeps_96 (by decide) ?_
        exact ih (ii + 1) f_27 _ _ _ (up_nx (by decide) hm (by decide) c_2)  hP hD hS (lv_sub hl [0, 1, 2, 3, 4] rfl)
  exact lp 7 (0 : Int32) (a 50) _ _ _ (⟨0, nI_0.symm, by omega, by omega⟩)  hP hD hS (lv_sub hl [0, 1, 2, 3, 4] rfl)

abbrev rm_X10_restores : Room := { frames := 0, cells := 0, slots := 0, locals := 0 }
theorem inw_X10_restores_10 : ∀ w ∈ wsX100, w ∈ wsX10_restores := by decide +kernel
set_option maxHeartbeats 1000000 in
set_option maxRecDepth 100000 in
theorem m_X10_restores (l : Launch) (dC : Nat → ClassId) (dI : Nat → Nat → Nat) (sa : Nat → Nat) (g : Nat → Nat) (h0 : Nat) (b : Nat → Nat) (i : Nat → Int32) (a : Nat → Nat → Int32) (de : Int32) (ck : Int32) (sz : Nat) (hde : 0 ≤ de.toInt ∧ de.toInt ≤ 3) (hc30 : vp_in ck 30) : CT l dC dI sa yX10_restores wsX10_restores rm_X10_restores [.ref h0, .int de, .int ck] (mw g h0 b i a) (tyM g) sz (fun (r : Option Value) (u : (Nat → Int32) × (Nat → Int32) × (Nat → Int32) × (Nat → Int32) × (Nat → Int32) × (Nat → Int32)) => match u with | (y4, y5, y6, y7, y14, y15) => (r = none) ∧ (True)) (fun (u : (Nat → Int32) × (Nat → Int32) × (Nat → Int32) × (Nat → Int32) × (Nat → Int32) × (Nat → Int32)) => match u with | (y4, y5, y6, y7, y14, y15) => mw g h0 b i (va_up (va_up (va_up (va_up (va_up (va_up a 4 y4) 5 y5) 6 y6) 7 y7) 14 y14) 15 y15)) (fun _ => []) 0 0 := by
  refine CT.start (cc := cX10_restores) (maxL := 5) (ret := none) (by decide) rfl (Nat.le_of_ble_eq_true rfl) ?_
  intro p e s m below meth c ls hst hP hK hD hev hS hl
  obtain ⟨hx, hb, hr, hml, hts, hown, hlocks, hin⟩ := hst
  have hown : s.vm.findClass RX10 = some m.cls := hown
  have hA : ∀ q : Nat, s.heap.size ≤ q → va_A (mw g h0 b i a) s.heap.size q := fun _ h => Or.inr h
  have hl : lv_has ls 5 [(0, .ref h0), (1, .int de), (2, .int ck)] := hl
  refine lv_bipush (v := 26) hx hb dX10_restores_0 (by decide) ?_
  refine lv_iload_n hx hb dX10_restores_2 rfl (lv_at hl 1 rfl) ?_
  refine lv_imul hx hb dX10_restores_3 ?_
  refine lv_topi (fun z_1 ez_1 => ?_)
  refine lv_istore_n (lv' := [(3, .int z_1), (0, .ref h0), (1, .int de), (2, .int ck)]) hx hb dX10_restores_4 rfl hl (by decide) rfl (fun ls hl => ?_)
  refine lv_iconst (v := 0) hx hb dX10_restores_5 (by decide) ?_
  refine lv_istore (lv' := [(4, .int 0), (3, .int z_1), (0, .ref h0), (1, .int de), (2, .int ck)]) hx hb dX10_restores_6 hl (by decide) rfl (fun ls hl => ?_)
  have lp : ∀ (n : Nat) (ii : Int32) (l4 : Nat → Int32) (l5 : Nat → Int32) (l6 : Nat → Int32) (l7 : Nat → Int32) (H : Heap) (locs : List Loc) (ls : Array Slot), (∃ q : Nat, ii = nI q ∧ q ≤ 6 ∧ 6 < q + n) → va_P (dC, dI) vwCl (mw g h0 b i (va_up (va_up (va_up (va_up a 4 l4) 5 l5) 6 l6) 7 l7)) H → va_D (va_A (mw g h0 b i a) s.heap.size) (mw g h0 b i (va_up (va_up (va_up (va_up a 4 l4) 5 l5) 6 l6) 7 l7)) → va_S (va_A (mw g h0 b i a) s.heap.size) s.heap H locs → lv_has ls 5 [(4, .int ii), (3, .int z_1), (0, .ref h0), (1, .int de), (2, .int ck)] → W p l e rm_X10_restores s m [.ref h0, .int de, .int ck].toArray below meth c H locs 0 0 (MQ below (Qg (fun (r : Option Value) (u : (Nat → Int32) × (Nat → Int32) × (Nat → Int32) × (Nat → Int32) × (Nat → Int32) × (Nat → Int32)) => match u with | (y4, y5, y6, y7, y14, y15) => (r = none) ∧ (True)) (fun u t => QW dC dI (va_A (mw g h0 b i a) s.heap.size) ((fun (u : (Nat → Int32) × (Nat → Int32) × (Nat → Int32) × (Nat → Int32) × (Nat → Int32) × (Nat → Int32)) => match u with | (y4, y5, y6, y7, y14, y15) => mw g h0 b i (va_up (va_up (va_up (va_up (va_up (va_up a 4 y4) 5 y5) 6 y6) 7 y7) 14 y14) 15 y15)) u) [] t) (va_A (mw g h0 b i a) s.heap.size)) [.ref h0, .int de, .int ck].toArray s 0 0 (va_A (mw g h0 b i a) s.heap.size)) (F0 m 8 ls []) := by
    intro n
    induction n with
    | zero => intro ii l4 l5 l6 l7 H locs ls hm  hP hD hS hl; exact absurd hm (by rintro ⟨q, -, h1, h2⟩; omega)
    | succ n ih =>
      intro ii l4 l5 l6 l7 H locs ls hm  hP hD hS hl
      refine lv_iload hx hb dX10_restores_8 (lv_at hl 0 rfl) ?_
      refine lv_bipush (v := 6) hx hb dX10_restores_10 (by decide) ?_
      refine lv_icmp_ge (tgt := 99) hx hb dX10_restores_12 (by decide) (fun c_2 => ?_) (fun c_2 => ?_)
      · have nc_2 := le_i c_2
        have lc_2 : (6 : Int32).toInt = 6 := by decide
        refine lv_aload_n hx hb dX10_restores_99 rfl (lv_at hl 2 rfl) ?_
        refine va_get (D := (dC, dI)) (ci := 10) (v := .ref (b 14)) (C := RX10) (T := TX10) (N := 51) hx hb hts inw_X10_restores_10 hown hK hP 0 rfl rfl 14 (by decide) (hts (.fieldLink RX10 38 "VatHouseModel" "loose" "[I") (by decide +kernel)) (fun _ h9 => h9) rfl dX10_restores_100 ?_
        refine lv_iload_n hx hb dX10_restores_103 rfl (lv_at hl 4 rfl) ?_
        refine lv_aload_n hx hb dX10_restores_104 rfl (lv_at hl 2 rfl) ?_
        refine va_get (D := (dC, dI)) (ci := 10) (v := .ref (b 50)) (C := RX10) (T := TX10) (N := 51) hx hb hts inw_X10_restores_10 hown hK hP 0 rfl rfl 50 (by decide) (hts (.fieldLink RX10 102 "VatHouseModel" "then" "[I") (by decide +kernel)) (fun _ h9 => h9) rfl dX10_restores_105 ?_
        refine lv_iload_n hx hb dX10_restores_108 rfl (lv_at hl 1 rfl) ?_
        refine lv_bipush (v := 24) hx hb dX10_restores_109 (by decide) ?_
        refine lv_iadd hx hb dX10_restores_111 ?_
        refine lv_topi (fun z_3 ez_3 => ?_)
        have t26 : (26 : Int32).toInt = 26 := by decide
        have tz_1 := mulc_i ez_1 (by decide : (26 : Int32).toInt = 26) (by omega) (by omega)
        have t24 : (24 : Int32).toInt = 24 := by decide
        have tz_3 := add_i ez_3 (by omega) (by omega)
        refine va_iald hx hb hK hP 29 28 rfl rfl (in_i (by omega) (by omega)) dX10_restores_112 ?_
        refine lv_topi (fun z_4 ez_4 => ?_)
        have ez_4 : z_4 = (a 50) z_3.toNatClampNeg := ez_4
        refine va_iast hx hb hK hP hD hS 10 9 rfl rfl (by assumption) dX10_restores_113 (fun H locs hP hD hS => ?_)
        have hP : va_P (dC, dI) vwCl (mw g h0 b i (va_up (va_up (va_up (va_up (va_up a 4 l4) 5 l5) 6 l6) 7 l7) 14 (upd (a 14) ck.toNatClampNeg z_4))) _ := hP
        have hD : va_D _ (mw g h0 b i (va_up (va_up (va_up (va_up (va_up a 4 l4) 5 l5) 6 l6) 7 l7) 14 (upd (a 14) ck.toNatClampNeg z_4))) := hD
        obtain ⟨f_5, ef_5⟩ : ∃ z, z = (upd (a 14) ck.toNatClampNeg z_4) := ⟨_, rfl⟩
        rw [← ef_5] at hP hD
        refine lv_aload_n hx hb dX10_restores_114 rfl (lv_at hl 2 rfl) ?_
        refine va_get (D := (dC, dI)) (ci := 10) (v := .ref (b 15)) (C := RX10) (T := TX10) (N := 51) hx hb hts inw_X10_restores_10 hown hK hP 0 rfl rfl 15 (by decide) (hts (.fieldLink RX10 41 "VatHouseModel" "fast" "[I") (by decide +kernel)) (fun _ h9 => h9) rfl dX10_restores_115 ?_
        refine lv_iload_n hx hb dX10_restores_118 rfl (lv_at hl 4 rfl) ?_
        refine lv_aload_n hx hb dX10_restores_119 rfl (lv_at hl 2 rfl) ?_
        refine va_get (D := (dC, dI)) (ci := 10) (v := .ref (b 50)) (C := RX10) (T := TX10) (N := 51) hx hb hts inw_X10_restores_10 hown hK hP 0 rfl rfl 50 (by decide) (hts (.fieldLink RX10 102 "VatHouseModel" "then" "[I") (by decide +kernel)) (fun _ h9 => h9) rfl dX10_restores_120 ?_
        refine lv_iload_n hx hb dX10_restores_123 rfl (lv_at hl 1 rfl) ?_
        refine lv_bipush (v := 25) hx hb dX10_restores_124 (by decide) ?_
        refine lv_iadd hx hb dX10_restores_126 ?_
        refine lv_topi (fun z_6 ez_6 => ?_)
        have t26 : (26 : Int32).toInt = 26 := by decide
        have tz_1 := mulc_i ez_1 (by decide : (26 : Int32).toInt = 26) (by omega) (by omega)
        have t25 : (25 : Int32).toInt = 25 := by decide
        have tz_6 := add_i ez_6 (by omega) (by omega)
        refine va_iald hx hb hK hP 29 28 rfl rfl (in_i (by omega) (by omega)) dX10_restores_127 ?_
        refine lv_topi (fun z_7 ez_7 => ?_)
        have ez_7 : z_7 = (a 50) z_6.toNatClampNeg := ez_7
        refine va_iast hx hb hK hP hD hS 11 10 rfl rfl (by assumption) dX10_restores_128 (fun H locs hP hD hS => ?_)
        have hP : va_P (dC, dI) vwCl (mw g h0 b i (va_up (va_up (va_up (va_up (va_up (va_up a 4 l4) 5 l5) 6 l6) 7 l7) 14 f_5) 15 (upd (a 15) ck.toNatClampNeg z_7))) _ := hP
        have hD : va_D _ (mw g h0 b i (va_up (va_up (va_up (va_up (va_up (va_up a 4 l4) 5 l5) 6 l6) 7 l7) 14 f_5) 15 (upd (a 15) ck.toNatClampNeg z_7))) := hD
        obtain ⟨f_8, ef_8⟩ : ∃ z, z = (upd (a 15) ck.toNatClampNeg z_7) := ⟨_, rfl⟩
        rw [← ef_8] at hP hD
        exact M_v hx hb hr hlocks (l4, l5, l6, l7, f_5, f_8) hP hD hK hS ⟨rfl, trivial⟩ (Nat.le_of_ble_eq_true rfl) (Nat.le_of_ble_eq_true rfl) dX10_restores_129
      · have nc_2 := nle_i c_2
        have lc_2 : (6 : Int32).toInt = 6 := by decide
        refine lv_aload_n hx hb dX10_restores_15 rfl (lv_at hl 2 rfl) ?_
        refine va_get (D := (dC, dI)) (ci := 10) (v := .ref (b 4)) (C := RX10) (T := TX10) (N := 51) hx hb hts inw_X10_restores_10 hown hK hP 0 rfl rfl 4 (by decide) (hts (.fieldLink RX10 7 "VatHouseModel" "grains" "[I") (by decide +kernel)) (fun _ h9 => h9) rfl dX10_restores_16 ?_
        refine lv_iload hx hb dX10_restores_19 (lv_at hl 0 rfl) ?_
        refine lv_aload_n hx hb dX10_restores_21 rfl (lv_at hl 2 rfl) ?_
        refine va_get (D := (dC, dI)) (ci := 10) (v := .ref (b 50)) (C := RX10) (T := TX10) (N := 51) hx hb hts inw_X10_restores_10 hown hK hP 0 rfl rfl 50 (by decide) (hts (.fieldLink RX10 102 "VatHouseModel" "then" "[I") (by decide +kernel)) (fun _ h9 => h9) rfl dX10_restores_22 ?_
        refine lv_iload_n hx hb dX10_restores_25 rfl (lv_at hl 1 rfl) ?_
        refine lv_iconst (v := 4) hx hb dX10_restores_26 (by decide) ?_
        refine lv_iload hx hb dX10_restores_27 (lv_at hl 0 rfl) ?_
        refine lv_imul hx hb dX10_restores_29 ?_
        refine lv_topi (fun z_9 ez_9 => ?_)
        refine lv_iadd hx hb dX10_restores_30 ?_
        refine lv_topi (fun z_10 ez_10 => ?_)
        have hrg := up_rg (by decide) hm (by decide) c_2
        have t26 : (26 : Int32).toInt = 26 := by decide
        have tz_1 := mulc_i ez_1 (by decide : (26 : Int32).toInt = 26) (by omega) (by omega)
        have t4 : (4 : Int32).toInt = 4 := by decide
        have tz_9 := mulc_i ez_9 (by decide : (4 : Int32).toInt = 4) (by omega) (by omega)
        have tz_10 := add_i ez_10 (by omega) (by omega)
        refine va_iald hx hb hK hP 29 28 rfl rfl (in_i (by omega) (by omega)) dX10_restores_31 ?_
        refine lv_topi (fun z_11 ez_11 => ?_)
        have ez_11 : z_11 = (a 50) z_10.toNatClampNeg := ez_11
        refine va_iast hx hb hK hP hD hS 1 0 rfl rfl (up_in (by decide) hm (by decide) c_2 (by decide) (by decide)) dX10_restores_32 (fun H locs hP hD hS => ?_)
        have hP : va_P (dC, dI) vwCl (mw g h0 b i (va_up (va_up (va_up (va_up a 4 (upd l4 ii.toNatClampNeg z_11)) 5 l5) 6 l6) 7 l7)) _ := hP
        have hD : va_D _ (mw g h0 b i (va_up (va_up (va_up (va_up a 4 (upd l4 ii.toNatClampNeg z_11)) 5 l5) 6 l6) 7 l7)) := hD
        obtain ⟨f_12, ef_12⟩ : ∃ z, z = (upd l4 ii.toNatClampNeg z_11) := ⟨_, rfl⟩
        rw [← ef_12] at hP hD
        refine lv_aload_n hx hb dX10_restores_33 rfl (lv_at hl 2 rfl) ?_
        refine va_get (D := (dC, dI)) (ci := 10) (v := .ref (b 5)) (C := RX10) (T := TX10) (N := 51) hx hb hts inw_X10_restores_10 hown hK hP 0 rfl rfl 5 (by decide) (hts (.fieldLink RX10 13 "VatHouseModel" "food" "[I") (by decide +kernel)) (fun _ h9 => h9) rfl dX10_restores_34 ?_
        refine lv_iload hx hb dX10_restores_37 (lv_at hl 0 rfl) ?_
        refine lv_aload_n hx hb dX10_restores_39 rfl (lv_at hl 2 rfl) ?_
        refine va_get (D := (dC, dI)) (ci := 10) (v := .ref (b 50)) (C := RX10) (T := TX10) (N := 51) hx hb hts inw_X10_restores_10 hown hK hP 0 rfl rfl 50 (by decide) (hts (.fieldLink RX10 102 "VatHouseModel" "then" "[I") (by decide +kernel)) (fun _ h9 => h9) rfl dX10_restores_40 ?_
        refine lv_iload_n hx hb dX10_restores_43 rfl (lv_at hl 1 rfl) ?_
        refine lv_iconst (v := 4) hx hb dX10_restores_44 (by decide) ?_
        refine lv_iload hx hb dX10_restores_45 (lv_at hl 0 rfl) ?_
        refine lv_imul hx hb dX10_restores_47 ?_
        refine lv_topi (fun z_13 ez_13 => ?_)
        refine lv_iadd hx hb dX10_restores_48 ?_
        refine lv_topi (fun z_14 ez_14 => ?_)
        refine lv_iconst (v := 1) hx hb dX10_restores_49 (by decide) ?_
        refine lv_iadd hx hb dX10_restores_50 ?_
        refine lv_topi (fun z_15 ez_15 => ?_)
        have hrg := up_rg (by decide) hm (by decide) c_2
        have t26 : (26 : Int32).toInt = 26 := by decide
        have tz_1 := mulc_i ez_1 (by decide : (26 : Int32).toInt = 26) (by omega) (by omega)
        have t4 : (4 : Int32).toInt = 4 := by decide
        have tz_13 := mulc_i ez_13 (by decide : (4 : Int32).toInt = 4) (by omega) (by omega)
        have tz_14 := add_i ez_14 (by omega) (by omega)
        have t1 : (1 : Int32).toInt = 1 := by decide
        have tz_15 := add_i ez_15 (by omega) (by omega)
        refine va_iald hx hb hK hP 29 28 rfl rfl (in_i (by omega) (by omega)) dX10_restores_51 ?_
        refine lv_topi (fun z_16 ez_16 => ?_)
        have ez_16 : z_16 = (a 50) z_15.toNatClampNeg := ez_16
        refine va_iast hx hb hK hP hD hS 2 1 rfl rfl (up_in (by decide) hm (by decide) c_2 (by decide) (by decide)) dX10_restores_52 (fun H locs hP hD hS => ?_)
        have hP : va_P (dC, dI) vwCl (mw g h0 b i (va_up (va_up (va_up (va_up a 4 f_12) 5 (upd l5 ii.toNatClampNeg z_16)) 6 l6) 7 l7)) _ := hP
        have hD : va_D _ (mw g h0 b i (va_up (va_up (va_up (va_up a 4 f_12) 5 (upd l5 ii.toNatClampNeg z_16)) 6 l6) 7 l7)) := hD
        obtain ⟨f_17, ef_17⟩ : ∃ z, z = (upd l5 ii.toNatClampNeg z_16) := ⟨_, rfl⟩
        rw [← ef_17] at hP hD
        refine lv_aload_n hx hb dX10_restores_53 rfl (lv_at hl 2 rfl) ?_
        refine va_get (D := (dC, dI)) (ci := 10) (v := .ref (b 6)) (C := RX10) (T := TX10) (N := 51) hx hb hts inw_X10_restores_10 hown hK hP 0 rfl rfl 6 (by decide) (hts (.fieldLink RX10 16 "VatHouseModel" "minutes" "[I") (by decide +kernel)) (fun _ h9 => h9) rfl dX10_restores_54 ?_
        refine lv_iload hx hb dX10_restores_57 (lv_at hl 0 rfl) ?_
        refine lv_aload_n hx hb dX10_restores_59 rfl (lv_at hl 2 rfl) ?_
        refine va_get (D := (dC, dI)) (ci := 10) (v := .ref (b 50)) (C := RX10) (T := TX10) (N := 51) hx hb hts inw_X10_restores_10 hown hK hP 0 rfl rfl 50 (by decide) (hts (.fieldLink RX10 102 "VatHouseModel" "then" "[I") (by decide +kernel)) (fun _ h9 => h9) rfl dX10_restores_60 ?_
        refine lv_iload_n hx hb dX10_restores_63 rfl (lv_at hl 1 rfl) ?_
        refine lv_iconst (v := 4) hx hb dX10_restores_64 (by decide) ?_
        refine lv_iload hx hb dX10_restores_65 (lv_at hl 0 rfl) ?_
        refine lv_imul hx hb dX10_restores_67 ?_
        refine lv_topi (fun z_18 ez_18 => ?_)
        refine lv_iadd hx hb dX10_restores_68 ?_
        refine lv_topi (fun z_19 ez_19 => ?_)
        refine lv_iconst (v := 2) hx hb dX10_restores_69 (by decide) ?_
        refine lv_iadd hx hb dX10_restores_70 ?_
        refine lv_topi (fun z_20 ez_20 => ?_)
        have hrg := up_rg (by decide) hm (by decide) c_2
        have t26 : (26 : Int32).toInt = 26 := by decide
        have tz_1 := mulc_i ez_1 (by decide : (26 : Int32).toInt = 26) (by omega) (by omega)
        have t4 : (4 : Int32).toInt = 4 := by decide
        have tz_18 := mulc_i ez_18 (by decide : (4 : Int32).toInt = 4) (by omega) (by omega)
        have tz_19 := add_i ez_19 (by omega) (by omega)
        have t2 : (2 : Int32).toInt = 2 := by decide
        have tz_20 := add_i ez_20 (by omega) (by omega)
        refine va_iald hx hb hK hP 29 28 rfl rfl (in_i (by omega) (by omega)) dX10_restores_71 ?_
        refine lv_topi (fun z_21 ez_21 => ?_)
        have ez_21 : z_21 = (a 50) z_20.toNatClampNeg := ez_21
        refine va_iast hx hb hK hP hD hS 3 2 rfl rfl (up_in (by decide) hm (by decide) c_2 (by decide) (by decide)) dX10_restores_72 (fun H locs hP hD hS => ?_)
        have hP : va_P (dC, dI) vwCl (mw g h0 b i (va_up (va_up (va_up (va_up a 4 f_12) 5 f_17) 6 (upd l6 ii.toNatClampNeg z_21)) 7 l7)) _ := hP
        have hD : va_D _ (mw g h0 b i (va_up (va_up (va_up (va_up a 4 f_12) 5 f_17) 6 (upd l6 ii.toNatClampNeg z_21)) 7 l7)) := hD
        obtain ⟨f_22, ef_22⟩ : ∃ z, z = (upd l6 ii.toNatClampNeg z_21) := ⟨_, rfl⟩
        rw [← ef_22] at hP hD
        refine lv_aload_n hx hb dX10_restores_73 rfl (lv_at hl 2 rfl) ?_
        refine va_get (D := (dC, dI)) (ci := 10) (v := .ref (b 7)) (C := RX10) (T := TX10) (N := 51) hx hb hts inw_X10_restores_10 hown hK hP 0 rfl rfl 7 (by decide) (hts (.fieldLink RX10 19 "VatHouseModel" "state" "[I") (by decide +kernel)) (fun _ h9 => h9) rfl dX10_restores_74 ?_
        refine lv_iload hx hb dX10_restores_77 (lv_at hl 0 rfl) ?_
        refine lv_aload_n hx hb dX10_restores_79 rfl (lv_at hl 2 rfl) ?_
        refine va_get (D := (dC, dI)) (ci := 10) (v := .ref (b 50)) (C := RX10) (T := TX10) (N := 51) hx hb hts inw_X10_restores_10 hown hK hP 0 rfl rfl 50 (by decide) (hts (.fieldLink RX10 102 "VatHouseModel" "then" "[I") (by decide +kernel)) (fun _ h9 => h9) rfl dX10_restores_80 ?_
        refine lv_iload_n hx hb dX10_restores_83 rfl (lv_at hl 1 rfl) ?_
        refine lv_iconst (v := 4) hx hb dX10_restores_84 (by decide) ?_
        refine lv_iload hx hb dX10_restores_85 (lv_at hl 0 rfl) ?_
        refine lv_imul hx hb dX10_restores_87 ?_
        refine lv_topi (fun z_23 ez_23 => ?_)
        refine lv_iadd hx hb dX10_restores_88 ?_
        refine lv_topi (fun z_24 ez_24 => ?_)
        refine lv_iconst (v := 3) hx hb dX10_restores_89 (by decide) ?_
        refine lv_iadd hx hb dX10_restores_90 ?_
        refine lv_topi (fun z_25 ez_25 => ?_)
        have hrg := up_rg (by decide) hm (by decide) c_2
        have t26 : (26 : Int32).toInt = 26 := by decide
        have tz_1 := mulc_i ez_1 (by decide : (26 : Int32).toInt = 26) (by omega) (by omega)
        have t4 : (4 : Int32).toInt = 4 := by decide
        have tz_23 := mulc_i ez_23 (by decide : (4 : Int32).toInt = 4) (by omega) (by omega)
        have tz_24 := add_i ez_24 (by omega) (by omega)
        have t3 : (3 : Int32).toInt = 3 := by decide
        have tz_25 := add_i ez_25 (by omega) (by omega)
        refine va_iald hx hb hK hP 29 28 rfl rfl (in_i (by omega) (by omega)) dX10_restores_91 ?_
        refine lv_topi (fun z_26 ez_26 => ?_)
        have ez_26 : z_26 = (a 50) z_25.toNatClampNeg := ez_26
        refine va_iast hx hb hK hP hD hS 4 3 rfl rfl (up_in (by decide) hm (by decide) c_2 (by decide) (by decide)) dX10_restores_92 (fun H locs hP hD hS => ?_)
        have hP : va_P (dC, dI) vwCl (mw g h0 b i (va_up (va_up (va_up (va_up a 4 f_12) 5 f_17) 6 f_22) 7 (upd l7 ii.toNatClampNeg z_26))) _ := hP
        have hD : va_D _ (mw g h0 b i (va_up (va_up (va_up (va_up a 4 f_12) 5 f_17) 6 f_22) 7 (upd l7 ii.toNatClampNeg z_26))) := hD
        obtain ⟨f_27, ef_27⟩ : ∃ z, z = (upd l7 ii.toNatClampNeg z_26) := ⟨_, rfl⟩
        rw [← ef_27] at hP hD
        refine lv_iinc (v := (ii + 1)) (lv' := [(4, .int (ii + 1)), (3, .int z_1), (0, .ref h0), (1, .int de), (2, .int ck)]) hx hb dX10_restores_93 hl (k := 0) rfl rfl (by decide) rfl (fun ls hl => ?_)
        refine lv_goto (tgt := 8) hx hb dX10_restores_96 (by decide) ?_
        exact ih (ii + 1) f_12 f_17 f_22 f_27 _ _ _ (up_nx (by decide) hm (by decide) c_2)  hP hD hS (lv_sub hl [0, 1, 2, 3, 4] rfl)
  exact lp 7 (0 : Int32) (a 4) (a 5) (a 6) (a 7) _ _ _ (⟨0, nI_0.symm, by omega, by omega⟩)  hP hD hS (lv_sub hl [0, 1, 2, 3, 4] rfl)

abbrev rm_X10_thinks : Room := { frames := 1, cells := 0, slots := 0, locals := 25 }
theorem inw_X10_thinks_10 : ∀ w ∈ wsX100, w ∈ wsX10_thinks := by decide +kernel
set_option maxHeartbeats 1000000 in
set_option maxRecDepth 100000 in
theorem m_X10_thinks (l : Launch) (dC : Nat → ClassId) (dI : Nat → Nat → Nat) (sa : Nat → Nat) (g : Nat → Nat) (h0 : Nat) (b : Nat → Nat) (i : Nat → Int32) (a : Nat → Nat → Int32) (ck : Int32) (vv : Int32) (mm : Int32) (sz : Nat) (hc30 : vp_in ck 30) (hv6 : vp_in vv 6) (hwt : 1 ≤ ((a 13) ck.toNatClampNeg).toInt ∧ ((a 13) ck.toNatClampNeg).toInt ≤ 50) : CT l dC dI sa yX10_thinks wsX10_thinks rm_X10_thinks [.ref h0, .int ck, .int vv, .int mm] (mw g h0 b i a) (tyM g) sz (fun (r : Option Value) (u : (Nat → Int32) × (Nat → Int32) × (Nat → Int32) × (Nat → Int32) × (Nat → Int32) × (Nat → Int32)) => match u with | (y4, y5, y6, y7, y14, y15) => (r = none) ∧ (True)) (fun (u : (Nat → Int32) × (Nat → Int32) × (Nat → Int32) × (Nat → Int32) × (Nat → Int32) × (Nat → Int32)) => match u with | (y4, y5, y6, y7, y14, y15) => mw g h0 b i (va_up (va_up (va_up (va_up (va_up (va_up a 4 y4) 5 y5) 6 y6) 7 y7) 14 y14) 15 y15)) (fun _ => []) 0 0 := by
  refine CT.start (cc := cX10_thinks) (maxL := 5) (ret := none) (by decide) rfl (Nat.le_of_ble_eq_true rfl) ?_
  intro p e s m below meth c ls hst hP hK hD hev hS hl
  obtain ⟨hx, hb, hr, hml, hts, hown, hlocks, hin⟩ := hst
  have hown : s.vm.findClass RX10 = some m.cls := hown
  have hA : ∀ q : Nat, s.heap.size ≤ q → va_A (mw g h0 b i a) s.heap.size q := fun _ h => Or.inr h
  have hl : lv_has ls 5 [(0, .ref h0), (1, .int ck), (2, .int vv), (3, .int mm)] := hl
  refine lv_aload_n hx hb dX10_thinks_0 rfl (lv_at hl 0 rfl) ?_
  refine lv_iload_n hx hb dX10_thinks_1 rfl (lv_at hl 1 rfl) ?_
  refine lv_iload_n hx hb dX10_thinks_2 rfl (lv_at hl 2 rfl) ?_
  refine lv_iload_n hx hb dX10_thinks_3 rfl (lv_at hl 3 rfl) ?_
  refine M_V ⟨hx, hb, hml, hown, hts⟩ (m_X10_moves l dC dI sa g h0 b i a ck vv mm _ hc30 hv6 hwt) (cwV 3 hts gX10_thinks_X10_moves rfl rfl rfl (by decide +kernel) ⟨Nat.le_of_ble_eq_true rfl, Nat.le_of_ble_eq_true rfl⟩) hP hD hK hS hA hev rfl rfl rfl rfl hl.1 rfl (Nat.le_of_ble_eq_true rfl) dX10_thinks_4 ⟨(Nat.le_of_ble_eq_true rfl), (Nat.le_of_ble_eq_true rfl)⟩ (fun r u H locs hw hP hD hS => ?_)
  have hw : (∃ z : Int32, r = some (.int z)) ∧ (True) := hw
  obtain ⟨⟨z_2, rfl⟩, hw_1⟩ := hw
  have hP : va_P (dC, dI) vwCl (mw g h0 b i a) _ := hP
  have hD : va_D _ (mw g h0 b i a) := hD
  refine W.eq (g2 := F0 m 7 ls [.int z_2]) rfl ?_
  refine lv_istore (lv' := [(4, .int z_2), (0, .ref h0), (1, .int ck), (2, .int vv), (3, .int mm)]) hx hb dX10_thinks_7 hl (by decide) rfl (fun ls hl => ?_)
  refine lv_aload_n hx hb dX10_thinks_9 rfl (lv_at hl 1 rfl) ?_
  refine va_get (D := (dC, dI)) (ci := 10) (v := .ref (b 4)) (C := RX10) (T := TX10) (N := 51) hx hb hts inw_X10_thinks_10 hown hK hP 0 rfl rfl 4 (by decide) (hts (.fieldLink RX10 7 "VatHouseModel" "grains" "[I") (by decide +kernel)) (fun _ h9 => h9) rfl dX10_thinks_10 ?_
  refine lv_iload_n hx hb dX10_thinks_13 rfl (lv_at hl 3 rfl) ?_
  refine lv_dup2_11 hx hb dX10_thinks_14 rfl rfl ?_
  refine va_iald hx hb hK hP 1 0 rfl rfl (by assumption) dX10_thinks_15 ?_
  refine lv_topi (fun z_3 ez_3 => ?_)
  have ez_3 : z_3 = (a 4) vv.toNatClampNeg := ez_3
  refine lv_iload hx hb dX10_thinks_16 (lv_at hl 0 rfl) ?_
  refine lv_isub hx hb dX10_thinks_18 ?_
  refine lv_topi (fun z_4 ez_4 => ?_)
  refine va_iast hx hb hK hP hD hS 1 0 rfl rfl (by assumption) dX10_thinks_19 (fun H locs hP hD hS => ?_)
  have hP : va_P (dC, dI) vwCl (mw g h0 b i (va_up a 4 (upd (a 4) vv.toNatClampNeg z_4))) _ := hP
  have hD : va_D _ (mw g h0 b i (va_up a 4 (upd (a 4) vv.toNatClampNeg z_4))) := hD
  obtain ⟨f_5, ef_5⟩ : ∃ z, z = (upd (a 4) vv.toNatClampNeg z_4) := ⟨_, rfl⟩
  rw [← ef_5] at hP hD
  refine lv_aload_n hx hb dX10_thinks_20 rfl (lv_at hl 1 rfl) ?_
  refine va_get (D := (dC, dI)) (ci := 10) (v := .ref (b 14)) (C := RX10) (T := TX10) (N := 51) hx hb hts inw_X10_thinks_10 hown hK hP 0 rfl rfl 14 (by decide) (hts (.fieldLink RX10 38 "VatHouseModel" "loose" "[I") (by decide +kernel)) (fun _ h9 => h9) rfl dX10_thinks_21 ?_
  refine lv_iload_n hx hb dX10_thinks_24 rfl (lv_at hl 2 rfl) ?_
  refine lv_dup2_11 hx hb dX10_thinks_25 rfl rfl ?_
  refine va_iald hx hb hK hP 10 9 rfl rfl (by assumption) dX10_thinks_26 ?_
  refine lv_topi (fun z_6 ez_6 => ?_)
  have ez_6 : z_6 = (a 14) ck.toNatClampNeg := ez_6
  refine lv_iload hx hb dX10_thinks_27 (lv_at hl 0 rfl) ?_
  refine lv_iadd hx hb dX10_thinks_29 ?_
  refine lv_topi (fun z_7 ez_7 => ?_)
  refine va_iast hx hb hK hP hD hS 10 9 rfl rfl (by assumption) dX10_thinks_30 (fun H locs hP hD hS => ?_)
  have hP : va_P (dC, dI) vwCl (mw g h0 b i (va_up (va_up a 4 f_5) 14 (upd (a 14) ck.toNatClampNeg z_7))) _ := hP
  have hD : va_D _ (mw g h0 b i (va_up (va_up a 4 f_5) 14 (upd (a 14) ck.toNatClampNeg z_7))) := hD
  obtain ⟨f_8, ef_8⟩ : ∃ z, z = (upd (a 14) ck.toNatClampNeg z_7) := ⟨_, rfl⟩
  rw [← ef_8] at hP hD
  refine lv_aload_n hx hb dX10_thinks_31 rfl (lv_at hl 1 rfl) ?_
  refine va_get (D := (dC, dI)) (ci := 10) (v := .ref (b 6)) (C := RX10) (T := TX10) (N := 51) hx hb hts inw_X10_thinks_10 hown hK hP 0 rfl rfl 6 (by decide) (hts (.fieldLink RX10 16 "VatHouseModel" "minutes" "[I") (by decide +kernel)) (fun _ h9 => h9) rfl dX10_thinks_32 ?_
  refine lv_iload_n hx hb dX10_thinks_35 rfl (lv_at hl 3 rfl) ?_
  refine lv_dup2_11 hx hb dX10_thinks_36 rfl rfl ?_
  refine va_iald hx hb hK hP 3 2 rfl rfl (by assumption) dX10_thinks_37 ?_
  refine lv_topi (fun z_9 ez_9 => ?_)
  have ez_9 : z_9 = (a 6) vv.toNatClampNeg := ez_9
  refine lv_iload_n hx hb dX10_thinks_38 rfl (lv_at hl 4 rfl) ?_
  refine lv_iadd hx hb dX10_thinks_39 ?_
  refine lv_topi (fun z_10 ez_10 => ?_)
  refine va_iast hx hb hK hP hD hS 3 2 rfl rfl (by assumption) dX10_thinks_40 (fun H locs hP hD hS => ?_)
  have hP : va_P (dC, dI) vwCl (mw g h0 b i (va_up (va_up (va_up a 4 f_5) 6 (upd (a 6) vv.toNatClampNeg z_10)) 14 f_8)) _ := hP
  have hD : va_D _ (mw g h0 b i (va_up (va_up (va_up a 4 f_5) 6 (upd (a 6) vv.toNatClampNeg z_10)) 14 f_8)) := hD
  obtain ⟨f_11, ef_11⟩ : ∃ z, z = (upd (a 6) vv.toNatClampNeg z_10) := ⟨_, rfl⟩
  rw [← ef_11] at hP hD
  refine lv_aload_n hx hb dX10_thinks_41 rfl (lv_at hl 1 rfl) ?_
  refine va_get (D := (dC, dI)) (ci := 10) (v := .ref (b 6)) (C := RX10) (T := TX10) (N := 51) hx hb hts inw_X10_thinks_10 hown hK hP 0 rfl rfl 6 (by decide) (hts (.fieldLink RX10 16 "VatHouseModel" "minutes" "[I") (by decide +kernel)) (fun _ h9 => h9) rfl dX10_thinks_42 ?_
  refine lv_iload_n hx hb dX10_thinks_45 rfl (lv_at hl 3 rfl) ?_
  refine va_iald hx hb hK hP 3 2 rfl rfl (by assumption) dX10_thinks_46 ?_
  refine lv_topi (fun z_12 ez_12 => ?_)
  have ez_12 : z_12 = f_11 vv.toNatClampNeg := ez_12
  refine lv_bipush (v := 60) hx hb dX10_thinks_47 (by decide) ?_
  refine lv_icmp_le (tgt := 59) hx hb dX10_thinks_49 (by decide) (fun c_13 => ?_) (fun c_13 => ?_)
  · have nc_13 := le_i c_13
    have lc_13 : (60 : Int32).toInt = 60 := by decide
    refine lv_aload_n hx hb dX10_thinks_59 rfl (lv_at hl 1 rfl) ?_
    refine va_get (D := (dC, dI)) (ci := 10) (v := .ref (b 5)) (C := RX10) (T := TX10) (N := 51) hx hb hts inw_X10_thinks_10 hown hK hP 0 rfl rfl 5 (by decide) (hts (.fieldLink RX10 13 "VatHouseModel" "food" "[I") (by decide +kernel)) (fun _ h9 => h9) rfl dX10_thinks_60 ?_
    refine lv_iload_n hx hb dX10_thinks_63 rfl (lv_at hl 3 rfl) ?_
    refine lv_dup2_11 hx hb dX10_thinks_64 rfl rfl ?_
    refine va_iald hx hb hK hP 2 1 rfl rfl (by assumption) dX10_thinks_65 ?_
    refine lv_topi (fun z_14 ez_14 => ?_)
    have ez_14 : z_14 = (a 5) vv.toNatClampNeg := ez_14
    refine lv_iload_n hx hb dX10_thinks_66 rfl (lv_at hl 4 rfl) ?_
    refine lv_isub hx hb dX10_thinks_67 ?_
    refine lv_topi (fun z_15 ez_15 => ?_)
    refine va_iast hx hb hK hP hD hS 2 1 rfl rfl (by assumption) dX10_thinks_68 (fun H locs hP hD hS => ?_)
    have hP : va_P (dC, dI) vwCl (mw g h0 b i (va_up (va_up (va_up (va_up a 4 f_5) 5 (upd (a 5) vv.toNatClampNeg z_15)) 6 f_11) 14 f_8)) _ := hP
    have hD : va_D _ (mw g h0 b i (va_up (va_up (va_up (va_up a 4 f_5) 5 (upd (a 5) vv.toNatClampNeg z_15)) 6 f_11) 14 f_8)) := hD
    obtain ⟨f_16, ef_16⟩ : ∃ z, z = (upd (a 5) vv.toNatClampNeg z_15) := ⟨_, rfl⟩
    rw [← ef_16] at hP hD
    refine lv_aload_n hx hb dX10_thinks_69 rfl (lv_at hl 1 rfl) ?_
    refine va_get (D := (dC, dI)) (ci := 10) (v := .ref (b 5)) (C := RX10) (T := TX10) (N := 51) hx hb hts inw_X10_thinks_10 hown hK hP 0 rfl rfl 5 (by decide) (hts (.fieldLink RX10 13 "VatHouseModel" "food" "[I") (by decide +kernel)) (fun _ h9 => h9) rfl dX10_thinks_70 ?_
    refine lv_iload_n hx hb dX10_thinks_73 rfl (lv_at hl 3 rfl) ?_
    refine va_iald hx hb hK hP 2 1 rfl rfl (by assumption) dX10_thinks_74 ?_
    refine lv_topi (fun z_17 ez_17 => ?_)
    have ez_17 : z_17 = f_16 vv.toNatClampNeg := ez_17
    refine lv_iconst (v := 1) hx hb dX10_thinks_75 (by decide) ?_
    refine lv_icmp_ge (tgt := 93) hx hb dX10_thinks_76 (by decide) (fun c_18 => ?_) (fun c_18 => ?_)
    · have nc_18 := le_i c_18
      have lc_18 : (1 : Int32).toInt = 1 := by decide
      refine lv_aload_n hx hb dX10_thinks_93 rfl (lv_at hl 1 rfl) ?_
      refine va_get (D := (dC, dI)) (ci := 10) (v := .ref (b 15)) (C := RX10) (T := TX10) (N := 51) hx hb hts inw_X10_thinks_10 hown hK hP 0 rfl rfl 15 (by decide) (hts (.fieldLink RX10 41 "VatHouseModel" "fast" "[I") (by decide +kernel)) (fun _ h9 => h9) rfl dX10_thinks_94 ?_
      refine lv_iload_n hx hb dX10_thinks_97 rfl (lv_at hl 2 rfl) ?_
      refine lv_dup2_11 hx hb dX10_thinks_98 rfl rfl ?_
      refine va_iald hx hb hK hP 11 10 rfl rfl (by assumption) dX10_thinks_99 ?_
      refine lv_topi (fun z_19 ez_19 => ?_)
      have ez_19 : z_19 = (a 15) ck.toNatClampNeg := ez_19
      refine lv_aload_n hx hb dX10_thinks_100 rfl (lv_at hl 1 rfl) ?_
      refine va_get (D := (dC, dI)) (ci := 10) (v := .ref (b 14)) (C := RX10) (T := TX10) (N := 51) hx hb hts inw_X10_thinks_10 hown hK hP 0 rfl rfl 14 (by decide) (hts (.fieldLink RX10 38 "VatHouseModel" "loose" "[I") (by decide +kernel)) (fun _ h9 => h9) rfl dX10_thinks_101 ?_
      refine lv_iload_n hx hb dX10_thinks_104 rfl (lv_at hl 2 rfl) ?_
      refine va_iald hx hb hK hP 10 9 rfl rfl (by assumption) dX10_thinks_105 ?_
      refine lv_topi (fun z_20 ez_20 => ?_)
      have ez_20 : z_20 = f_8 ck.toNatClampNeg := ez_20
      refine lv_aload_n hx hb dX10_thinks_106 rfl (lv_at hl 1 rfl) ?_
      refine va_get (D := (dC, dI)) (ci := 10) (v := .ref (b 14)) (C := RX10) (T := TX10) (N := 51) hx hb hts inw_X10_thinks_10 hown hK hP 0 rfl rfl 14 (by decide) (hts (.fieldLink RX10 38 "VatHouseModel" "loose" "[I") (by decide +kernel)) (fun _ h9 => h9) rfl dX10_thinks_107 ?_
      refine lv_iload_n hx hb dX10_thinks_110 rfl (lv_at hl 2 rfl) ?_
      refine va_iald hx hb hK hP 10 9 rfl rfl (by assumption) dX10_thinks_111 ?_
      refine lv_topi (fun z_21 ez_21 => ?_)
      have ez_21 : z_21 = f_8 ck.toNatClampNeg := ez_21
      refine lv_bipush (v := 8) hx hb dX10_thinks_112 (by decide) ?_
      refine lv_idiv hx hb dX10_thinks_114 (by decide) ?_
      refine lv_topi (fun z_22 ez_22 => ?_)
      refine lv_isub hx hb dX10_thinks_115 ?_
      refine lv_topi (fun z_23 ez_23 => ?_)
      refine lv_iadd hx hb dX10_thinks_116 ?_
      refine lv_topi (fun z_24 ez_24 => ?_)
      refine va_iast hx hb hK hP hD hS 11 10 rfl rfl (by assumption) dX10_thinks_117 (fun H locs hP hD hS => ?_)
      have hP : va_P (dC, dI) vwCl (mw g h0 b i (va_up (va_up (va_up (va_up (va_up a 4 f_5) 5 f_16) 6 f_11) 14 f_8) 15 (upd (a 15) ck.toNatClampNeg z_24))) _ := hP
      have hD : va_D _ (mw g h0 b i (va_up (va_up (va_up (va_up (va_up a 4 f_5) 5 f_16) 6 f_11) 14 f_8) 15 (upd (a 15) ck.toNatClampNeg z_24))) := hD
      obtain ⟨f_25, ef_25⟩ : ∃ z, z = (upd (a 15) ck.toNatClampNeg z_24) := ⟨_, rfl⟩
      rw [← ef_25] at hP hD
      refine lv_aload_n hx hb dX10_thinks_118 rfl (lv_at hl 1 rfl) ?_
      refine va_get (D := (dC, dI)) (ci := 10) (v := .ref (b 14)) (C := RX10) (T := TX10) (N := 51) hx hb hts inw_X10_thinks_10 hown hK hP 0 rfl rfl 14 (by decide) (hts (.fieldLink RX10 38 "VatHouseModel" "loose" "[I") (by decide +kernel)) (fun _ h9 => h9) rfl dX10_thinks_119 ?_
      refine lv_iload_n hx hb dX10_thinks_122 rfl (lv_at hl 2 rfl) ?_
      refine lv_iconst (v := 0) hx hb dX10_thinks_123 (by decide) ?_
      refine va_iast hx hb hK hP hD hS 10 9 rfl rfl (by assumption) dX10_thinks_124 (fun H locs hP hD hS => ?_)
      have hP : va_P (dC, dI) vwCl (mw g h0 b i (va_up (va_up (va_up (va_up (va_up a 4 f_5) 5 f_16) 6 f_11) 14 (upd f_8 ck.toNatClampNeg (0 : Int32))) 15 f_25)) _ := hP
      have hD : va_D _ (mw g h0 b i (va_up (va_up (va_up (va_up (va_up a 4 f_5) 5 f_16) 6 f_11) 14 (upd f_8 ck.toNatClampNeg (0 : Int32))) 15 f_25)) := hD
      obtain ⟨f_26, ef_26⟩ : ∃ z, z = (upd f_8 ck.toNatClampNeg (0 : Int32)) := ⟨_, rfl⟩
      rw [← ef_26] at hP hD
      exact M_v hx hb hr hlocks (f_5, f_16, f_11, (a 7), f_26, f_25) hP hD hK hS ⟨rfl, trivial⟩ (Nat.le_of_ble_eq_true rfl) (Nat.le_of_ble_eq_true rfl) dX10_thinks_125
    · have nc_18 := nle_i c_18
      have lc_18 : (1 : Int32).toInt = 1 := by decide
      refine lv_aload_n hx hb dX10_thinks_79 rfl (lv_at hl 1 rfl) ?_
      refine va_get (D := (dC, dI)) (ci := 10) (v := .ref (b 5)) (C := RX10) (T := TX10) (N := 51) hx hb hts inw_X10_thinks_10 hown hK hP 0 rfl rfl 5 (by decide) (hts (.fieldLink RX10 13 "VatHouseModel" "food" "[I") (by decide +kernel)) (fun _ h9 => h9) rfl dX10_thinks_80 ?_
      refine lv_iload_n hx hb dX10_thinks_83 rfl (lv_at hl 3 rfl) ?_
      refine lv_iconst (v := 0) hx hb dX10_thinks_84 (by decide) ?_
      refine va_iast hx hb hK hP hD hS 2 1 rfl rfl (by assumption) dX10_thinks_85 (fun H locs hP hD hS => ?_)
      have hP : va_P (dC, dI) vwCl (mw g h0 b i (va_up (va_up (va_up (va_up a 4 f_5) 5 (upd f_16 vv.toNatClampNeg (0 : Int32))) 6 f_11) 14 f_8)) _ := hP
      have hD : va_D _ (mw g h0 b i (va_up (va_up (va_up (va_up a 4 f_5) 5 (upd f_16 vv.toNatClampNeg (0 : Int32))) 6 f_11) 14 f_8)) := hD
      obtain ⟨f_27, ef_27⟩ : ∃ z, z = (upd f_16 vv.toNatClampNeg (0 : Int32)) := ⟨_, rfl⟩
      rw [← ef_27] at hP hD
      refine lv_aload_n hx hb dX10_thinks_86 rfl (lv_at hl 1 rfl) ?_
      refine va_get (D := (dC, dI)) (ci := 10) (v := .ref (b 7)) (C := RX10) (T := TX10) (N := 51) hx hb hts inw_X10_thinks_10 hown hK hP 0 rfl rfl 7 (by decide) (hts (.fieldLink RX10 19 "VatHouseModel" "state" "[I") (by decide +kernel)) (fun _ h9 => h9) rfl dX10_thinks_87 ?_
      refine lv_iload_n hx hb dX10_thinks_90 rfl (lv_at hl 3 rfl) ?_
      refine lv_iconst (v := 2) hx hb dX10_thinks_91 (by decide) ?_
      refine va_iast hx hb hK hP hD hS 4 3 rfl rfl (by assumption) dX10_thinks_92 (fun H locs hP hD hS => ?_)
      have hP : va_P (dC, dI) vwCl (mw g h0 b i (va_up (va_up (va_up (va_up (va_up a 4 f_5) 5 f_27) 6 f_11) 7 (upd (a 7) vv.toNatClampNeg (2 : Int32))) 14 f_8)) _ := hP
      have hD : va_D _ (mw g h0 b i (va_up (va_up (va_up (va_up (va_up a 4 f_5) 5 f_27) 6 f_11) 7 (upd (a 7) vv.toNatClampNeg (2 : Int32))) 14 f_8)) := hD
      obtain ⟨f_28, ef_28⟩ : ∃ z, z = (upd (a 7) vv.toNatClampNeg (2 : Int32)) := ⟨_, rfl⟩
      rw [← ef_28] at hP hD
      refine lv_aload_n hx hb dX10_thinks_93 rfl (lv_at hl 1 rfl) ?_
      refine va_get (D := (dC, dI)) (ci := 10) (v := .ref (b 15)) (C := RX10) (T := TX10) (N := 51) hx hb hts inw_X10_thinks_10 hown hK hP 0 rfl rfl 15 (by decide) (hts (.fieldLink RX10 41 "VatHouseModel" "fast" "[I") (by decide +kernel)) (fun _ h9 => h9) rfl dX10_thinks_94 ?_
      refine lv_iload_n hx hb dX10_thinks_97 rfl (lv_at hl 2 rfl) ?_
      refine lv_dup2_11 hx hb dX10_thinks_98 rfl rfl ?_
      refine va_iald hx hb hK hP 11 10 rfl rfl (by assumption) dX10_thinks_99 ?_
      refine lv_topi (fun z_29 ez_29 => ?_)
      have ez_29 : z_29 = (a 15) ck.toNatClampNeg := ez_29
      refine lv_aload_n hx hb dX10_thinks_100 rfl (lv_at hl 1 rfl) ?_
      refine va_get (D := (dC, dI)) (ci := 10) (v := .ref (b 14)) (C := RX10) (T := TX10) (N := 51) hx hb hts inw_X10_thinks_10 hown hK hP 0 rfl rfl 14 (by decide) (hts (.fieldLink RX10 38 "VatHouseModel" "loose" "[I") (by decide +kernel)) (fun _ h9 => h9) rfl dX10_thinks_101 ?_
      refine lv_iload_n hx hb dX10_thinks_104 rfl (lv_at hl 2 rfl) ?_
      refine va_iald hx hb hK hP 10 9 rfl rfl (by assumption) dX10_thinks_105 ?_
      refine lv_topi (fun z_30 ez_30 => ?_)
      have ez_30 : z_30 = f_8 ck.toNatClampNeg := ez_30
      refine lv_aload_n hx hb dX10_thinks_106 rfl (lv_at hl 1 rfl) ?_
      refine va_get (D := (dC, dI)) (ci := 10) (v := .ref (b 14)) (C := RX10) (T := TX10) (N := 51) hx hb hts inw_X10_thinks_10 hown hK hP 0 rfl rfl 14 (by decide) (hts (.fieldLink RX10 38 "VatHouseModel" "loose" "[I") (by decide +kernel)) (fun _ h9 => h9) rfl dX10_thinks_107 ?_
      refine lv_iload_n hx hb dX10_thinks_110 rfl (lv_at hl 2 rfl) ?_
      refine va_iald hx hb hK hP 10 9 rfl rfl (by assumption) dX10_thinks_111 ?_
      refine lv_topi (fun z_31 ez_31 => ?_)
      have ez_31 : z_31 = f_8 ck.toNatClampNeg := ez_31
      refine lv_bipush (v := 8) hx hb dX10_thinks_112 (by decide) ?_
      refine lv_idiv hx hb dX10_thinks_114 (by decide) ?_
      refine lv_topi (fun z_32 ez_32 => ?_)
      refine lv_isub hx hb dX10_thinks_115 ?_
      refine lv_topi (fun z_33 ez_33 => ?_)
      refine lv_iadd hx hb dX10_thinks_116 ?_
      refine lv_topi (fun z_34 ez_34 => ?_)
      refine va_iast hx hb hK hP hD hS 11 10 rfl rfl (by assumption) dX10_thinks_117 (fun H locs hP hD hS => ?_)
      have hP : va_P (dC, dI) vwCl (mw g h0 b i (va_up (va_up (va_up (va_up (va_up (va_up a 4 f_5) 5 f_27) 6 f_11) 7 f_28) 14 f_8) 15 (upd (a 15) ck.toNatClampNeg z_34))) _ := hP
      have hD : va_D _ (mw g h0 b i (va_up (va_up (va_up (va_up (va_up (va_up a 4 f_5) 5 f_27) 6 f_11) 7 f_28) 14 f_8) 15 (upd (a 15) ck.toNatClampNeg z_34))) := hD
      obtain ⟨f_35, ef_35⟩ : ∃ z, z = (upd (a 15) ck.toNatClampNeg z_34) := ⟨_, rfl⟩
      rw [← ef_35] at hP hD
      refine lv_aload_n hx hb dX10_thinks_118 rfl (lv_at hl 1 rfl) ?_
      refine va_get (D := (dC, dI)) (ci := 10) (v := .ref (b 14)) (C := RX10) (T := TX10) (N := 51) hx hb hts inw_X10_thinks_10 hown hK hP 0 rfl rfl 14 (by decide) (hts (.fieldLink RX10 38 "VatHouseModel" "loose" "[I") (by decide +kernel)) (fun _ h9 => h9) rfl dX10_thinks_119 ?_
      refine lv_iload_n hx hb dX10_thinks_122 rfl (lv_at hl 2 rfl) ?_
      refine lv_iconst (v := 0) hx hb dX10_thinks_123 (by decide) ?_
      refine va_iast hx hb hK hP hD hS 10 9 rfl rfl (by assumption) dX10_thinks_124 (fun H locs hP hD hS => ?_)
      have hP : va_P (dC, dI) vwCl (mw g h0 b i (va_up (va_up (va_up (va_up (va_up (va_up a 4 f_5) 5 f_27) 6 f_11) 7 f_28) 14 (upd f_8 ck.toNatClampNeg (0 : Int32))) 15 f_35)) _ := hP
      have hD : va_D _ (mw g h0 b i (va_up (va_up (va_up (va_up (va_up (va_up a 4 f_5) 5 f_27) 6 f_11) 7 f_28) 14 (upd f_8 ck.toNatClampNeg (0 : Int32))) 15 f_35)) := hD
      obtain ⟨f_36, ef_36⟩ : ∃ z, z = (upd f_8 ck.toNatClampNeg (0 : Int32)) := ⟨_, rfl⟩
      rw [← ef_36] at hP hD
      exact M_v hx hb hr hlocks (f_5, f_27, f_11, f_28, f_36, f_35) hP hD hK hS ⟨rfl, trivial⟩ (Nat.le_of_ble_eq_true rfl) (Nat.le_of_ble_eq_true rfl) dX10_thinks_125
  · have nc_13 := nle_i c_13
    have lc_13 : (60 : Int32).toInt = 60 := by decide
    refine lv_aload_n hx hb dX10_thinks_52 rfl (lv_at hl 1 rfl) ?_
    refine va_get (D := (dC, dI)) (ci := 10) (v := .ref (b 7)) (C := RX10) (T := TX10) (N := 51) hx hb hts inw_X10_thinks_10 hown hK hP 0 rfl rfl 7 (by decide) (hts (.fieldLink RX10 19 "VatHouseModel" "state" "[I") (by decide +kernel)) (fun _ h9 => h9) rfl dX10_thinks_53 ?_
    refine lv_iload_n hx hb dX10_thinks_56 rfl (lv_at hl 3 rfl) ?_
    refine lv_iconst (v := 1) hx hb dX10_thinks_57 (by decide) ?_
    refine va_iast hx hb hK hP hD hS 4 3 rfl rfl (by assumption) dX10_thinks_58 (fun H locs hP hD hS => ?_)
    have hP : va_P (dC, dI) vwCl (mw g h0 b i (va_up (va_up (va_up (va_up a 4 f_5) 6 f_11) 7 (upd (a 7) vv.toNatClampNeg (1 : Int32))) 14 f_8)) _ := hP
    have hD : va_D _ (mw g h0 b i (va_up (va_up (va_up (va_up a 4 f_5) 6 f_11) 7 (upd (a 7) vv.toNatClampNeg (1 : Int32))) 14 f_8)) := hD
    obtain ⟨f_37, ef_37⟩ : ∃ z, z = (upd (a 7) vv.toNatClampNeg (1 : Int32)) := ⟨_, rfl⟩
    rw [← ef_37] at hP hD
    refine lv_aload_n hx hb dX10_thinks_59 rfl (lv_at hl 1 rfl) ?_
    refine va_get (D := (dC, dI)) (ci := 10) (v := .ref (b 5)) (C := RX10) (T := TX10) (N := 51) hx hb hts inw_X10_thinks_10 hown hK hP 0 rfl rfl 5 (by decide) (hts (.fieldLink RX10 13 "VatHouseModel" "food" "[I") (by decide +kernel)) (fun _ h9 => h9) rfl dX10_thinks_60 ?_
    refine lv_iload_n hx hb dX10_thinks_63 rfl (lv_at hl 3 rfl) ?_
    refine lv_dup2_11 hx hb dX10_thinks_64 rfl rfl ?_
    refine va_iald hx hb hK hP 2 1 rfl rfl (by assumption) dX10_thinks_65 ?_
    refine lv_topi (fun z_38 ez_38 => ?_)
    have ez_38 : z_38 = (a 5) vv.toNatClampNeg := ez_38
    refine lv_iload_n hx hb dX10_thinks_66 rfl (lv_at hl 4 rfl) ?_
    refine lv_isub hx hb dX10_thinks_67 ?_
    refine lv_topi (fun z_39 ez_39 => ?_)
    refine va_iast hx hb hK hP hD hS 2 1 rfl rfl (by assumption) dX10_thinks_68 (fun H locs hP hD hS => ?_)
    have hP : va_P (dC, dI) vwCl (mw g h0 b i (va_up (va_up (va_up (va_up (va_up a 4 f_5) 5 (upd (a 5) vv.toNatClampNeg z_39)) 6 f_11) 7 f_37) 14 f_8)) _ := hP
    have hD : va_D _ (mw g h0 b i (va_up (va_up (va_up (va_up (va_up a 4 f_5) 5 (upd (a 5) vv.toNatClampNeg z_39)) 6 f_11) 7 f_37) 14 f_8)) := hD
    obtain ⟨f_40, ef_40⟩ : ∃ z, z = (upd (a 5) vv.toNatClampNeg z_39) := ⟨_, rfl⟩
    rw [← ef_40] at hP hD
    refine lv_aload_n hx hb dX10_thinks_69 rfl (lv_at hl 1 rfl) ?_
    refine va_get (D := (dC, dI)) (ci := 10) (v := .ref (b 5)) (C := RX10) (T := TX10) (N := 51) hx hb hts inw_X10_thinks_10 hown hK hP 0 rfl rfl 5 (by decide) (hts (.fieldLink RX10 13 "VatHouseModel" "food" "[I") (by decide +kernel)) (fun _ h9 => h9) rfl dX10_thinks_70 ?_
    refine lv_iload_n hx hb dX10_thinks_73 rfl (lv_at hl 3 rfl) ?_
    refine va_iald hx hb hK hP 2 1 rfl rfl (by assumption) dX10_thinks_74 ?_
    refine lv_topi (fun z_41 ez_41 => ?_)
    have ez_41 : z_41 = f_40 vv.toNatClampNeg := ez_41
    refine lv_iconst (v := 1) hx hb dX10_thinks_75 (by decide) ?_
    refine lv_icmp_ge (tgt := 93) hx hb dX10_thinks_76 (by decide) (fun c_42 => ?_) (fun c_42 => ?_)
    · have nc_42 := le_i c_42
      have lc_42 : (1 : Int32).toInt = 1 := by decide
      refine lv_aload_n hx hb dX10_thinks_93 rfl (lv_at hl 1 rfl) ?_
      refine va_get (D := (dC, dI)) (ci := 10) (v := .ref (b 15)) (C := RX10) (T := TX10) (N := 51) hx hb hts inw_X10_thinks_10 hown hK hP 0 rfl rfl 15 (by decide) (hts (.fieldLink RX10 41 "VatHouseModel" "fast" "[I") (by decide +kernel)) (fun _ h9 => h9) rfl dX10_thinks_94 ?_
      refine lv_iload_n hx hb dX10_thinks_97 rfl (lv_at hl 2 rfl) ?_
      refine lv_dup2_11 hx hb dX10_thinks_98 rfl rfl ?_
      refine va_iald hx hb hK hP 11 10 rfl rfl (by assumption) dX10_thinks_99 ?_
      refine lv_topi (fun z_43 ez_43 => ?_)
      have ez_43 : z_43 = (a 15) ck.toNatClampNeg := ez_43
      refine lv_aload_n hx hb dX10_thinks_100 rfl (lv_at hl 1 rfl) ?_
      refine va_get (D := (dC, dI)) (ci := 10) (v := .ref (b 14)) (C := RX10) (T := TX10) (N := 51) hx hb hts inw_X10_thinks_10 hown hK hP 0 rfl rfl 14 (by decide) (hts (.fieldLink RX10 38 "VatHouseModel" "loose" "[I") (by decide +kernel)) (fun _ h9 => h9) rfl dX10_thinks_101 ?_
      refine lv_iload_n hx hb dX10_thinks_104 rfl (lv_at hl 2 rfl) ?_
      refine va_iald hx hb hK hP 10 9 rfl rfl (by assumption) dX10_thinks_105 ?_
      refine lv_topi (fun z_44 ez_44 => ?_)
      have ez_44 : z_44 = f_8 ck.toNatClampNeg := ez_44
      refine lv_aload_n hx hb dX10_thinks_106 rfl (lv_at hl 1 rfl) ?_
      refine va_get (D := (dC, dI)) (ci := 10) (v := .ref (b 14)) (C := RX10) (T := TX10) (N := 51) hx hb hts inw_X10_thinks_10 hown hK hP 0 rfl rfl 14 (by decide) (hts (.fieldLink RX10 38 "VatHouseModel" "loose" "[I") (by decide +kernel)) (fun _ h9 => h9) rfl dX10_thinks_107 ?_
      refine lv_iload_n hx hb dX10_thinks_110 rfl (lv_at hl 2 rfl) ?_
      refine va_iald hx hb hK hP 10 9 rfl rfl (by assumption) dX10_thinks_111 ?_
      refine lv_topi (fun z_45 ez_45 => ?_)
      have ez_45 : z_45 = f_8 ck.toNatClampNeg := ez_45
      refine lv_bipush (v := 8) hx hb dX10_thinks_112 (by decide) ?_
      refine lv_idiv hx hb dX10_thinks_114 (by decide) ?_
      refine lv_topi (fun z_46 ez_46 => ?_)
      refine lv_isub hx hb dX10_thinks_115 ?_
      refine lv_topi (fun z_47 ez_47 => ?_)
      refine lv_iadd hx hb dX10_thinks_116 ?_
      refine lv_topi (fun z_48 ez_48 => ?_)
      refine va_iast hx hb hK hP hD hS 11 10 rfl rfl (by assumption) dX10_thinks_117 (fun H locs hP hD hS => ?_)
      have hP : va_P (dC, dI) vwCl (mw g h0 b i (va_up (va_up (va_up (va_up (va_up (va_up a 4 f_5) 5 f_40) 6 f_11) 7 f_37) 14 f_8) 15 (upd (a 15) ck.toNatClampNeg z_48))) _ := hP
      have hD : va_D _ (mw g h0 b i (va_up (va_up (va_up (va_up (va_up (va_up a 4 f_5) 5 f_40) 6 f_11) 7 f_37) 14 f_8) 15 (upd (a 15) ck.toNatClampNeg z_48))) := hD
      obtain ⟨f_49, ef_49⟩ : ∃ z, z = (upd (a 15) ck.toNatClampNeg z_48) := ⟨_, rfl⟩
      rw [← ef_49] at hP hD
      refine lv_aload_n hx hb dX10_thinks_118 rfl (lv_at hl 1 rfl) ?_
      refine va_get (D := (dC, dI)) (ci := 10) (v := .ref (b 14)) (C := RX10) (T := TX10) (N := 51) hx hb hts inw_X10_thinks_10 hown hK hP 0 rfl rfl 14 (by decide) (hts (.fieldLink RX10 38 "VatHouseModel" "loose" "[I") (by decide +kernel)) (fun _ h9 => h9) rfl dX10_thinks_119 ?_
      refine lv_iload_n hx hb dX10_thinks_122 rfl (lv_at hl 2 rfl) ?_
      refine lv_iconst (v := 0) hx hb dX10_thinks_123 (by decide) ?_
      refine va_iast hx hb hK hP hD hS 10 9 rfl rfl (by assumption) dX10_thinks_124 (fun H locs hP hD hS => ?_)
      have hP : va_P (dC, dI) vwCl (mw g h0 b i (va_up (va_up (va_up (va_up (va_up (va_up a 4 f_5) 5 f_40) 6 f_11) 7 f_37) 14 (upd f_8 ck.toNatClampNeg (0 : Int32))) 15 f_49)) _ := hP
      have hD : va_D _ (mw g h0 b i (va_up (va_up (va_up (va_up (va_up (va_up a 4 f_5) 5 f_40) 6 f_11) 7 f_37) 14 (upd f_8 ck.toNatClampNeg (0 : Int32))) 15 f_49)) := hD
      obtain ⟨f_50, ef_50⟩ : ∃ z, z = (upd f_8 ck.toNatClampNeg (0 : Int32)) := ⟨_, rfl⟩
      rw [← ef_50] at hP hD
      exact M_v hx hb hr hlocks (f_5, f_40, f_11, f_37, f_50, f_49) hP hD hK hS ⟨rfl, trivial⟩ (Nat.le_of_ble_eq_true rfl) (Nat.le_of_ble_eq_true rfl) dX10_thinks_125
    · have nc_42 := nle_i c_42
      have lc_42 : (1 : Int32).toInt = 1 := by decide
      refine lv_aload_n hx hb dX10_thinks_79 rfl (lv_at hl 1 rfl) ?_
      refine va_get (D := (dC, dI)) (ci := 10) (v := .ref (b 5)) (C := RX10) (T := TX10) (N := 51) hx hb hts inw_X10_thinks_10 hown hK hP 0 rfl rfl 5 (by decide) (hts (.fieldLink RX10 13 "VatHouseModel" "food" "[I") (by decide +kernel)) (fun _ h9 => h9) rfl dX10_thinks_80 ?_
      refine lv_iload_n hx hb dX10_thinks_83 rfl (lv_at hl 3 rfl) ?_
      refine lv_iconst (v := 0) hx hb dX10_thinks_84 (by decide) ?_
      refine va_iast hx hb hK hP hD hS 2 1 rfl rfl (by assumption) dX10_thinks_85 (fun H locs hP hD hS => ?_)
      have hP : va_P (dC, dI) vwCl (mw g h0 b i (va_up (va_up (va_up (va_up (va_up a 4 f_5) 5 (upd f_40 vv.toNatClampNeg (0 : Int32))) 6 f_11) 7 f_37) 14 f_8)) _ := hP
      have hD : va_D _ (mw g h0 b i (va_up (va_up (va_up (va_up (va_up a 4 f_5) 5 (upd f_40 vv.toNatClampNeg (0 : Int32))) 6 f_11) 7 f_37) 14 f_8)) := hD
      obtain ⟨f_51, ef_51⟩ : ∃ z, z = (upd f_40 vv.toNatClampNeg (0 : Int32)) := ⟨_, rfl⟩
      rw [← ef_51] at hP hD
      refine lv_aload_n hx hb dX10_thinks_86 rfl (lv_at hl 1 rfl) ?_
      refine va_get (D := (dC, dI)) (ci := 10) (v := .ref (b 7)) (C := RX10) (T := TX10) (N := 51) hx hb hts inw_X10_thinks_10 hown hK hP 0 rfl rfl 7 (by decide) (hts (.fieldLink RX10 19 "VatHouseModel" "state" "[I") (by decide +kernel)) (fun _ h9 => h9) rfl dX10_thinks_87 ?_
      refine lv_iload_n hx hb dX10_thinks_90 rfl (lv_at hl 3 rfl) ?_
      refine lv_iconst (v := 2) hx hb dX10_thinks_91 (by decide) ?_
      refine va_iast hx hb hK hP hD hS 4 3 rfl rfl (by assumption) dX10_thinks_92 (fun H locs hP hD hS => ?_)
      have hP : va_P (dC, dI) vwCl (mw g h0 b i (va_up (va_up (va_up (va_up (va_up a 4 f_5) 5 f_51) 6 f_11) 7 (upd f_37 vv.toNatClampNeg (2 : Int32))) 14 f_8)) _ := hP
      have hD : va_D _ (mw g h0 b i (va_up (va_up (va_up (va_up (va_up a 4 f_5) 5 f_51) 6 f_11) 7 (upd f_37 vv.toNatClampNeg (2 : Int32))) 14 f_8)) := hD
      obtain ⟨f_52, ef_52⟩ : ∃ z, z = (upd f_37 vv.toNatClampNeg (2 : Int32)) := ⟨_, rfl⟩
      rw [← ef_52] at hP hD
      refine lv_aload_n hx hb dX10_thinks_93 rfl (lv_at hl 1 rfl) ?_
      refine va_get (D := (dC, dI)) (ci := 10) (v := .ref (b 15)) (C := RX10) (T := TX10) (N := 51) hx hb hts inw_X10_thinks_10 hown hK hP 0 rfl rfl 15 (by decide) (hts (.fieldLink RX10 41 "VatHouseModel" "fast" "[I") (by decide +kernel)) (fun _ h9 => h9) rfl dX10_thinks_94 ?_
      refine lv_iload_n hx hb dX10_thinks_97 rfl (lv_at hl 2 rfl) ?_
      refine lv_dup2_11 hx hb dX10_thinks_98 rfl rfl ?_
      refine va_iald hx hb hK hP 11 10 rfl rfl (by assumption) dX10_thinks_99 ?_
      refine lv_topi (fun z_53 ez_53 => ?_)
      have ez_53 : z_53 = (a 15) ck.toNatClampNeg := ez_53
      refine lv_aload_n hx hb dX10_thinks_100 rfl (lv_at hl 1 rfl) ?_
      refine va_get (D := (dC, dI)) (ci := 10) (v := .ref (b 14)) (C := RX10) (T := TX10) (N := 51) hx hb hts inw_X10_thinks_10 hown hK hP 0 rfl rfl 14 (by decide) (hts (.fieldLink RX10 38 "VatHouseModel" "loose" "[I") (by decide +kernel)) (fun _ h9 => h9) rfl dX10_thinks_101 ?_
      refine lv_iload_n hx hb dX10_thinks_104 rfl (lv_at hl 2 rfl) ?_
      refine va_iald hx hb hK hP 10 9 rfl rfl (by assumption) dX10_thinks_105 ?_
      refine lv_topi (fun z_54 ez_54 => ?_)
      have ez_54 : z_54 = f_8 ck.toNatClampNeg := ez_54
      refine lv_aload_n hx hb dX10_thinks_106 rfl (lv_at hl 1 rfl) ?_
      refine va_get (D := (dC, dI)) (ci := 10) (v := .ref (b 14)) (C := RX10) (T := TX10) (N := 51) hx hb hts inw_X10_thinks_10 hown hK hP 0 rfl rfl 14 (by decide) (hts (.fieldLink RX10 38 "VatHouseModel" "loose" "[I") (by decide +kernel)) (fun _ h9 => h9) rfl dX10_thinks_107 ?_
      refine lv_iload_n hx hb dX10_thinks_110 rfl (lv_at hl 2 rfl) ?_
      refine va_iald hx hb hK hP 10 9 rfl rfl (by assumption) dX10_thinks_111 ?_
      refine lv_topi (fun z_55 ez_55 => ?_)
      have ez_55 : z_55 = f_8 ck.toNatClampNeg := ez_55
      refine lv_bipush (v := 8) hx hb dX10_thinks_112 (by decide) ?_
      refine lv_idiv hx hb dX10_thinks_114 (by decide) ?_
      refine lv_topi (fun z_56 ez_56 => ?_)
      refine lv_isub hx hb dX10_thinks_115 ?_
      refine lv_topi (fun z_57 ez_57 => ?_)
      refine lv_iadd hx hb dX10_thinks_116 ?_
      refine lv_topi (fun z_58 ez_58 => ?_)
      refine va_iast hx hb hK hP hD hS 11 10 rfl rfl (by assumption) dX10_thinks_117 (fun H locs hP hD hS => ?_)
      have hP : va_P (dC, dI) vwCl (mw g h0 b i (va_up (va_up (va_up (va_up (va_up (va_up a 4 f_5) 5 f_51) 6 f_11) 7 f_52) 14 f_8) 15 (upd (a 15) ck.toNatClampNeg z_58))) _ := hP
      have hD : va_D _ (mw g h0 b i (va_up (va_up (va_up (va_up (va_up (va_up a 4 f_5) 5 f_51) 6 f_11) 7 f_52) 14 f_8) 15 (upd (a 15) ck.toNatClampNeg z_58))) := hD
      obtain ⟨f_59, ef_59⟩ : ∃ z, z = (upd (a 15) ck.toNatClampNeg z_58) := ⟨_, rfl⟩
      rw [← ef_59] at hP hD
      refine lv_aload_n hx hb dX10_thinks_118 rfl (lv_at hl 1 rfl) ?_
      refine va_get (D := (dC, dI)) (ci := 10) (v := .ref (b 14)) (C := RX10) (T := TX10) (N := 51) hx hb hts inw_X10_thinks_10 hown hK hP 0 rfl rfl 14 (by decide) (hts (.fieldLink RX10 38 "VatHouseModel" "loose" "[I") (by decide +kernel)) (fun _ h9 => h9) rfl dX10_thinks_119 ?_
      refine lv_iload_n hx hb dX10_thinks_122 rfl (lv_at hl 2 rfl) ?_
      refine lv_iconst (v := 0) hx hb dX10_thinks_123 (by decide) ?_
      refine va_iast hx hb hK hP hD hS 10 9 rfl rfl (by assumption) dX10_thinks_124 (fun H locs hP hD hS => ?_)
      have hP : va_P (dC, dI) vwCl (mw g h0 b i (va_up (va_up (va_up (va_up (va_up (va_up a 4 f_5) 5 f_51) 6 f_11) 7 f_52) 14 (upd f_8 ck.toNatClampNeg (0 : Int32))) 15 f_59)) _ := hP
      have hD : va_D _ (mw g h0 b i (va_up (va_up (va_up (va_up (va_up (va_up a 4 f_5) 5 f_51) 6 f_11) 7 f_52) 14 (upd f_8 ck.toNatClampNeg (0 : Int32))) 15 f_59)) := hD
      obtain ⟨f_60, ef_60⟩ : ∃ z, z = (upd f_8 ck.toNatClampNeg (0 : Int32)) := ⟨_, rfl⟩
      rw [← ef_60] at hP hD
      exact M_v hx hb hr hlocks (f_5, f_51, f_11, f_52, f_60, f_59) hP hD hK hS ⟨rfl, trivial⟩ (Nat.le_of_ble_eq_true rfl) (Nat.le_of_ble_eq_true rfl) dX10_thinks_125

abbrev rm_X10_leads (j : Nat) (d : Nat) : Room := { frames := j + 20, cells := 0, slots := 0, locals := 100 * j + 300 }
theorem inw_X10_leads_10 : ∀ w ∈ wsX100, w ∈ wsX10_leads := by decide +kernel
set_option maxHeartbeats 1000000 in
set_option maxRecDepth 100000 in
theorem m_X10_leads (l : Launch) (dC : Nat → ClassId) (dI : Nat → Nat → Nat) (sa : Nat → Nat) (g : Nat → Nat) (h0 : Nat) (b : Nat → Nat) (j : Nat) (d : Nat) (i : Nat → Int32) (a : Nat → Nat → Int32) (ck : Int32) (de : Int32) (my : Int32) (lw : Int32) (hg : Int32) (sz : Nat) (hd : de = nI d) (hmy : my = nI (d + j)) (h3 : d + j ≤ 3) (hc30 : vp_in ck 30) (hwt : 1 ≤ ((a 13) ck.toNatClampNeg).toInt ∧ ((a 13) ck.toNatClampNeg).toInt ≤ 50) (IHL : ∀ j' d' : Nat, j = j' + 1 → ∀ (i : Nat → Int32) (a : Nat → Nat → Int32) (ck : Int32) (de : Int32) (my : Int32) (lw : Int32) (hg : Int32) (sz : Nat) (hd : de = nI d') (hmy : my = nI (d' + j')) (h3 : d' + j' ≤ 3) (hc30 : vp_in ck 30) (hwt : 1 ≤ ((a 13) ck.toNatClampNeg).toInt ∧ ((a 13) ck.toNatClampNeg).toInt ≤ 50), CT l dC dI sa yX10_leads wsX10_leads (rm_X10_leads j' d') [.ref h0, .int ck, .int de, .int my, .int lw, .int hg] (mw g h0 b i a) (tyM g) sz (fun (r : Option Value) (u : (Nat → Int32) × (Nat → Int32) × (Nat → Int32) × (Nat → Int32) × (Nat → Int32) × (Nat → Int32) × (Nat → Int32) × (Nat → Int32) × (Nat → Int32) × (Nat → Int32)) => match u with | (y4, y5, y6, y7, y14, y15, y47, y48, y49, y50) => (∃ z : Int32, r = some (.int z) ∧ (z = 0 ∨ z = 1)) ∧ (True)) (fun (u : (Nat → Int32) × (Nat → Int32) × (Nat → Int32) × (Nat → Int32) × (Nat → Int32) × (Nat → Int32) × (Nat → Int32) × (Nat → Int32) × (Nat → Int32) × (Nat → Int32)) => match u with | (y4, y5, y6, y7, y14, y15, y47, y48, y49, y50) => mw g h0 b i (va_up (va_up (va_up (va_up (va_up (va_up (va_up (va_up (va_up (va_up a 4 y4) 5 y5) 6 y6) 7 y7) 14 y14) 15 y15) 47 y47) 48 y48) 49 y49) 50 y50)) (fun _ => []) 0 0) : CT l dC dI sa yX10_leads wsX10_leads (rm_X10_leads j d) [.ref h0, .int ck, .int de, .int my, .int lw, .int hg] (mw g h0 b i a) (tyM g) sz (fun (r : Option Value) (u : (Nat → Int32) × (Nat → Int32) × (Nat → Int32) × (Nat → Int32) × (Nat → Int32) × (Nat → Int32) × (Nat → Int32) × (Nat → Int32) × (Nat → Int32) × (Nat → Int32)) => match u with | (y4, y5, y6, y7, y14, y15, y47, y48, y49, y50) => (∃ z : Int32, r = some (.int z) ∧ (z = 0 ∨ z = 1)) ∧ (True)) (fun (u : (Nat → Int32) × (Nat → Int32) × (Nat → Int32) × (Nat → Int32) × (Nat → Int32) × (Nat → Int32) × (Nat → Int32) × (Nat → Int32) × (Nat → Int32) × (Nat → Int32)) => match u with | (y4, y5, y6, y7, y14, y15, y47, y48, y49, y50) => mw g h0 b i (va_up (va_up (va_up (va_up (va_up (va_up (va_up (va_up (va_up (va_up a 4 y4) 5 y5) 6 y6) 7 y7) 14 y14) 15 y15) 47 y47) 48 y48) 49 y49) 50 y50)) (fun _ => []) 0 0 := by
  refine CT.start (cc := cX10_leads) (maxL := 9) (ret := (some .boolean)) (by decide) rfl (Nat.le_of_ble_eq_true rfl) ?_
  intro p e s m below meth c ls hst hP hK hD hev hS hl
  obtain ⟨hx, hb, hr, hml, hts, hown, hlocks, hin⟩ := hst
  have hown : s.vm.findClass RX10 = some m.cls := hown
  have hA : ∀ q : Nat, s.heap.size ≤ q → va_A (mw g h0 b i a) s.heap.size q := fun _ h => Or.inr h
  have hl : lv_has ls 9 [(0, .ref h0), (1, .int ck), (2, .int de), (3, .int my), (4, .int lw), (5, .int hg)] := hl
  refine lv_iload_n hx hb dX10_leads_0 rfl (lv_at hl 2 rfl) ?_
  refine lv_iload_n hx hb dX10_leads_1 rfl (lv_at hl 3 rfl) ?_
  refine lv_icmp_ne (tgt := 40) hx hb dX10_leads_2 (by decide) (fun c_1 => ?_) (fun c_1 => ?_)
  · have nc_1 := ne_i c_1
    obtain ⟨j1, hj1⟩ : ∃ j1, j = j1 + 1 := ⟨j - 1, by
      rcases Nat.eq_zero_or_pos j with h9 | h9
      · exact absurd (by rw [hd, hmy, h9]; rfl) c_1
      · omega⟩
    refine lv_aload_n hx hb dX10_leads_40 rfl (lv_at hl 0 rfl) ?_
    refine lv_iload_n hx hb dX10_leads_41 rfl (lv_at hl 2 rfl) ?_
    refine lv_iload_n hx hb dX10_leads_42 rfl (lv_at hl 1 rfl) ?_
    refine M_V ⟨hx, hb, hml, hown, hts⟩ (m_X10_keeps l dC dI sa g h0 b i a de ck _ (by rw [hd, nI_toInt (by omega)]; omega) hc30) (cwV 2 hts gX10_leads_X10_keeps rfl rfl rfl (by decide +kernel) ⟨(by first | exact Nat.le_of_ble_eq_true rfl | (simp only [rm_X10_keeps, rm_X10_leads]; omega)), (by first | exact Nat.le_of_ble_eq_true rfl | (simp only [rm_X10_keeps, rm_X10_leads]; omega))⟩) hP hD hK hS hA hev rfl rfl rfl rfl hl.1 rfl (Nat.le_of_ble_eq_true rfl) dX10_leads_43 ⟨(by first | exact Nat.le_of_ble_eq_true rfl | (simp only [rm_X10_leads]; omega)), (by first | exact Nat.le_of_ble_eq_true rfl | (simp only [rm_X10_leads]; omega))⟩ (fun r u H locs hw hP hD hS => ?_)
    obtain ⟨y50_2, rfl⟩ : ∃ z, z = u := ⟨_, rfl⟩
    have hw : (r = none) ∧ (True) := hw
    obtain ⟨rfl, hw_3⟩ := hw
    have hP : va_P (dC, dI) vwCl (mw g h0 b i (va_up a 50 y50_2)) _ := hP
    have hD : va_D _ (mw g h0 b i (va_up a 50 y50_2)) := hD
    refine W.eq (g2 := F0 m 46 ls []) rfl ?_
    refine lv_iconst (v := 0) hx hb dX10_leads_46 (by decide) ?_
    refine lv_istore (lv' := [(6, .int 0), (0, .ref h0), (1, .int ck), (2, .int de), (3, .int my), (4, .int lw), (5, .int hg)]) hx hb dX10_leads_47 hl (by decide) rfl (fun ls hl => ?_)
    have lpO : ∀ (nO : Nat) (ii : Int32) (l4O : Nat → Int32) (l5O : Nat → Int32) (l6O : Nat → Int32) (l7O : Nat → Int32) (l14O : Nat → Int32) (l15O : Nat → Int32) (l47O : Nat → Int32) (l48O : Nat → Int32) (l49O : Nat → Int32) (l50O : Nat → Int32) (H : Heap) (locs : List Loc) (ls : Array Slot), (∃ q : Nat, ii = nI q ∧ q ≤ 6 ∧ 6 < q + nO) → va_P (dC, dI) vwCl (mw g h0 b i (va_up (va_up (va_up (va_up (va_up (va_up (va_up (va_up (va_up (va_up a 4 l4O) 5 l5O) 6 l6O) 7 l7O) 14 l14O) 15 l15O) 47 l47O) 48 l48O) 49 l49O) 50 l50O)) H → va_D (va_A (mw g h0 b i a) s.heap.size) (mw g h0 b i (va_up (va_up (va_up (va_up (va_up (va_up (va_up (va_up (va_up (va_up a 4 l4O) 5 l5O) 6 l6O) 7 l7O) 14 l14O) 15 l15O) 47 l47O) 48 l48O) 49 l49O) 50 l50O)) → va_S (va_A (mw g h0 b i a) s.heap.size) s.heap H locs → lv_has ls 9 [(6, .int ii), (0, .ref h0), (1, .int ck), (2, .int de), (3, .int my), (4, .int lw), (5, .int hg)] → W p l e (rm_X10_leads j d) s m [.ref h0, .int ck, .int de, .int my, .int lw, .int hg].toArray below meth c H locs 0 0 (MQ below (Qg (fun (r : Option Value) (u : (Nat → Int32) × (Nat → Int32) × (Nat → Int32) × (Nat → Int32) × (Nat → Int32) × (Nat → Int32) × (Nat → Int32) × (Nat → Int32) × (Nat → Int32) × (Nat → Int32)) => match u with | (y4, y5, y6, y7, y14, y15, y47, y48, y49, y50) => (∃ z : Int32, r = some (.int z) ∧ (z = 0 ∨ z = 1)) ∧ (True)) (fun u t => QW dC dI (va_A (mw g h0 b i a) s.heap.size) ((fun (u : (Nat → Int32) × (Nat → Int32) × (Nat → Int32) × (Nat → Int32) × (Nat → Int32) × (Nat → Int32) × (Nat → Int32) × (Nat → Int32) × (Nat → Int32) × (Nat → Int32)) => match u with | (y4, y5, y6, y7, y14, y15, y47, y48, y49, y50) => mw g h0 b i (va_up (va_up (va_up (va_up (va_up (va_up (va_up (va_up (va_up (va_up a 4 y4) 5 y5) 6 y6) 7 y7) 14 y14) 15 y15) 47 y47) 48 y48) 49 y49) 50 y50)) u) [] t) (va_A (mw g h0 b i a) s.heap.size)) [.ref h0, .int ck, .int de, .int my, .int lw, .int hg].toArray s 0 0 (va_A (mw g h0 b i a) s.heap.size)) (F0 m 49 ls []) := by
      intro nO
      induction nO with
      | zero => intro ii l4O l5O l6O l7O l14O l15O l47O l48O l49O l50O H locs ls hmO  hP hD hS hl; exact absurd hmO (by rintro ⟨q, -, h1, h2⟩; omega)
      | succ nO ihO =>
        intro ii l4O l5O l6O l7O l14O l15O l47O l48O l49O l50O H locs ls hmO  hP hD hS hl
        refine lv_iload hx hb dX10_leads_49 (lv_at hl 0 rfl) ?_
        refine lv_bipush (v := 6) hx hb dX10_leads_51 (by decide) ?_
        refine lv_icmp_ge (tgt := 171) hx hb dX10_leads_53 (by decide) (fun c_4 => ?_) (fun c_4 => ?_)
        · have nc_4 := le_i c_4
          have lc_4 : (6 : Int32).toInt = 6 := by decide
          refine lv_iconst (v := 0) hx hb dX10_leads_171 (by decide) ?_
          exact M_z hx hb hr rfl hlocks (l4O, l5O, l6O, l7O, l14O, l15O, l47O, l48O, l49O, l50O) hP hD hK hS ⟨⟨_, rfl, Or.inl rfl⟩, trivial⟩ (by first | exact Nat.le_of_ble_eq_true rfl | (simp only [rm_X10_leads]; omega)) (by first | exact Nat.le_of_ble_eq_true rfl | (simp only [rm_X10_leads]; omega)) dX10_leads_172
        · have nc_4 := nle_i c_4
          have lc_4 : (6 : Int32).toInt = 6 := by decide
          refine lv_iconst (v := 1) hx hb dX10_leads_56 (by decide) ?_
          refine lv_istore (lv' := [(7, .int 1), (6, .int ii), (0, .ref h0), (1, .int ck), (2, .int de), (3, .int my), (4, .int lw), (5, .int hg)]) hx hb dX10_leads_57 hl (by decide) rfl (fun ls hl => ?_)
          have lp : ∀ (n : Nat) (mx : Int32) (l4 : Nat → Int32) (l5 : Nat → Int32) (l6 : Nat → Int32) (l7 : Nat → Int32) (l14 : Nat → Int32) (l15 : Nat → Int32) (l47 : Nat → Int32) (l48 : Nat → Int32) (l49 : Nat → Int32) (l50 : Nat → Int32) (H : Heap) (locs : List Loc) (ls : Array Slot), (Dbl mx n) → va_P (dC, dI) vwCl (mw g h0 b i (va_up (va_up (va_up (va_up (va_up (va_up (va_up (va_up (va_up (va_up a 4 l4) 5 l5) 6 l6) 7 l7) 14 l14) 15 l15) 47 l47) 48 l48) 49 l49) 50 l50)) H → va_D (va_A (mw g h0 b i a) s.heap.size) (mw g h0 b i (va_up (va_up (va_up (va_up (va_up (va_up (va_up (va_up (va_up (va_up a 4 l4) 5 l5) 6 l6) 7 l7) 14 l14) 15 l15) 47 l47) 48 l48) 49 l49) 50 l50)) → va_S (va_A (mw g h0 b i a) s.heap.size) s.heap H locs → lv_has ls 9 [(7, .int mx), (6, .int ii), (0, .ref h0), (1, .int ck), (2, .int de), (3, .int my), (4, .int lw), (5, .int hg)] → W p l e (rm_X10_leads j d) s m [.ref h0, .int ck, .int de, .int my, .int lw, .int hg].toArray below meth c H locs 0 0 (MQ below (Qg (fun (r : Option Value) (u : (Nat → Int32) × (Nat → Int32) × (Nat → Int32) × (Nat → Int32) × (Nat → Int32) × (Nat → Int32) × (Nat → Int32) × (Nat → Int32) × (Nat → Int32) × (Nat → Int32)) => match u with | (y4, y5, y6, y7, y14, y15, y47, y48, y49, y50) => (∃ z : Int32, r = some (.int z) ∧ (z = 0 ∨ z = 1)) ∧ (True)) (fun u t => QW dC dI (va_A (mw g h0 b i a) s.heap.size) ((fun (u : (Nat → Int32) × (Nat → Int32) × (Nat → Int32) × (Nat → Int32) × (Nat → Int32) × (Nat → Int32) × (Nat → Int32) × (Nat → Int32) × (Nat → Int32) × (Nat → Int32)) => match u with | (y4, y5, y6, y7, y14, y15, y47, y48, y49, y50) => mw g h0 b i (va_up (va_up (va_up (va_up (va_up (va_up (va_up (va_up (va_up (va_up a 4 y4) 5 y5) 6 y6) 7 y7) 14 y14) 15 y15) 47 y47) 48 y48) 49 y49) 50 y50)) u) [] t) (va_A (mw g h0 b i a) s.heap.size)) [.ref h0, .int ck, .int de, .int my, .int lw, .int hg].toArray s 0 0 (va_A (mw g h0 b i a) s.heap.size)) (F0 m 59 ls []) := by
            intro n
            induction n with
            | zero => intro mx l4 l5 l6 l7 l14 l15 l47 l48 l49 l50 H locs ls hm  hP hD hS hl; exact hm.z.elim
            | succ n ih =>
              intro mx l4 l5 l6 l7 l14 l15 l47 l48 l49 l50 H locs ls hm  hP hD hS hl
              refine lv_iload hx hb dX10_leads_59 (lv_at hl 0 rfl) ?_
              refine lv_bipush (v := 8) hx hb dX10_leads_61 (by decide) ?_
              refine lv_icmp_gt (tgt := 165) hx hb dX10_leads_63 (by decide) (fun c_5 => ?_) (fun c_5 => ?_)
              · have nc_5 := lt_i c_5
                have lc_5 : (8 : Int32).toInt = 8 := by decide
                refine lv_iinc (v := (ii + 1)) (lv' := [(6, .int (ii + 1)), (7, .int mx), (0, .ref h0), (1, .int ck), (2, .int de), (3, .int my), (4, .int lw), (5, .int hg)]) hx hb dX10_leads_165 hl (k := 1) rfl rfl (by decide) rfl (fun ls hl => ?_)
                refine lv_goto (tgt := 49) hx hb dX10_leads_168 (by decide) ?_
                exact ihO (ii + 1) l4 l5 l6 l7 l14 l15 l47 l48 l49 l50 _ _ _ (up_nx (by decide) hmO (by decide) c_4)  hP hD hS (lv_sub hl [0, 2, 3, 4, 5, 6, 7] rfl)
              · have nc_5 := nlt_i c_5
                have lc_5 : (8 : Int32).toInt = 8 := by decide
                refine lv_aload_n hx hb dX10_leads_66 rfl (lv_at hl 2 rfl) ?_
                refine va_get (D := (dC, dI)) (ci := 10) (v := .ref (b 7)) (C := RX10) (T := TX10) (N := 51) hx hb hts inw_X10_leads_10 hown hK hP 0 rfl rfl 7 (by decide) (hts (.fieldLink RX10 19 "VatHouseModel" "state" "[I") (by decide +kernel)) (fun _ h9 => h9) rfl dX10_leads_67 ?_
                refine lv_iload hx hb dX10_leads_70 (lv_at hl 1 rfl) ?_
                refine va_iald hx hb hK hP 4 3 rfl rfl (up_in (by decide) hmO (by decide) c_4 (by decide) (by decide)) dX10_leads_72 ?_
                refine lv_topi (fun z_6 ez_6 => ?_)
                have ez_6 : z_6 = l7 ii.toNatClampNeg := ez_6
                refine lv_iconst (v := 2) hx hb dX10_leads_73 (by decide) ?_
                refine lv_icmp_eq (tgt := 156) hx hb dX10_leads_74 (by decide) (fun c_7 => ?_) (fun c_7 => ?_)
                · have nc_7 := eq_i c_7
                  have lc_7 : (2 : Int32).toInt = 2 := by decide
                  refine lv_iload hx hb dX10_leads_156 (lv_at hl 0 rfl) ?_
                  refine lv_iconst (v := 2) hx hb dX10_leads_158 (by decide) ?_
                  refine lv_imul hx hb dX10_leads_159 ?_
                  refine lv_topi (fun z_8 ez_8 => ?_)
                  refine lv_istore (lv' := [(7, .int z_8), (6, .int ii), (0, .ref h0), (1, .int ck), (2, .int de), (3, .int my), (4, .int lw), (5, .int hg)]) hx hb dX10_leads_160 hl (by decide) rfl (fun ls hl => ?_)
                  refine lv_goto (tgt := 59) hx hb dX10_leads_162 (by decide) ?_
                  exact ih z_8 l4 l5 l6 l7 l14 l15 l47 l48 l49 l50 _ _ _ (hm.nx c_5 ez_8)  hP hD hS (lv_sub hl [0, 1, 2, 3, 4, 5, 6, 7] rfl)
                · have nc_7 := ne_i c_7
                  have lc_7 : (2 : Int32).toInt = 2 := by decide
                  refine lv_aload_n hx hb dX10_leads_77 rfl (lv_at hl 2 rfl) ?_
                  refine lv_iload_n hx hb dX10_leads_78 rfl (lv_at hl 3 rfl) ?_
                  refine lv_iload hx hb dX10_leads_79 (lv_at hl 1 rfl) ?_
                  refine lv_iload hx hb dX10_leads_81 (lv_at hl 0 rfl) ?_
                  refine M_V ⟨hx, hb, hml, hown, hts⟩ (m_X10_moves l dC dI sa g h0 b i (va_up (va_up (va_up (va_up (va_up (va_up (va_up (va_up (va_up (va_up a 4 l4) 5 l5) 6 l6) 7 l7) 14 l14) 15 l15) 47 l47) 48 l48) 49 l49) 50 l50) ck ii mx _ hc30 (up_in (by decide) hmO (by decide) c_4 (by decide) (by decide)) hwt) (cwV 3 hts gX10_leads_X10_moves rfl rfl rfl (by decide +kernel) ⟨(by first | exact Nat.le_of_ble_eq_true rfl | (simp only [rm_X10_moves, rm_X10_leads]; omega)), (by first | exact Nat.le_of_ble_eq_true rfl | (simp only [rm_X10_moves, rm_X10_leads]; omega))⟩) hP hD hK hS hA hev rfl rfl rfl rfl hl.1 rfl (Nat.le_of_ble_eq_true rfl) dX10_leads_83 ⟨(by first | exact Nat.le_of_ble_eq_true rfl | (simp only [rm_X10_leads]; omega)), (by first | exact Nat.le_of_ble_eq_true rfl | (simp only [rm_X10_leads]; omega))⟩ (fun r u H locs hw hP hD hS => ?_)
                  have hw : (∃ z : Int32, r = some (.int z)) ∧ (True) := hw
                  obtain ⟨⟨z_10, rfl⟩, hw_9⟩ := hw
                  have hP : va_P (dC, dI) vwCl (mw g h0 b i (va_up (va_up (va_up (va_up (va_up (va_up (va_up (va_up (va_up (va_up a 4 l4) 5 l5) 6 l6) 7 l7) 14 l14) 15 l15) 47 l47) 48 l48) 49 l49) 50 l50)) _ := hP
                  have hD : va_D _ (mw g h0 b i (va_up (va_up (va_up (va_up (va_up (va_up (va_up (va_up (va_up (va_up a 4 l4) 5 l5) 6 l6) 7 l7) 14 l14) 15 l15) 47 l47) 48 l48) 49 l49) 50 l50)) := hD
                  refine W.eq (g2 := F0 m 86 ls [.int z_10]) rfl ?_
                  refine lv_if_ne (tgt := 92) hx hb dX10_leads_86 (by decide) (fun c_11 => ?_) (fun c_11 => ?_)
                  · have nc_11 := ne_i c_11
                    have lc_11 : (0 : Int32).toInt = 0 := by decide
                    refine lv_aload_n hx hb dX10_leads_92 rfl (lv_at hl 2 rfl) ?_
                    refine lv_iload_n hx hb dX10_leads_93 rfl (lv_at hl 3 rfl) ?_
                    refine lv_iload hx hb dX10_leads_94 (lv_at hl 1 rfl) ?_
                    refine lv_iload hx hb dX10_leads_96 (lv_at hl 0 rfl) ?_
                    refine M_V ⟨hx, hb, hml, hown, hts⟩ (m_X10_thinks l dC dI sa g h0 b i (va_up (va_up (va_up (va_up (va_up (va_up (va_up (va_up (va_up (va_up a 4 l4) 5 l5) 6 l6) 7 l7) 14 l14) 15 l15) 47 l47) 48 l48) 49 l49) 50 l50) ck ii mx _ hc30 (up_in (by decide) hmO (by decide) c_4 (by decide) (by decide)) hwt) (cwV 3 hts gX10_leads_X10_thinks rfl rfl rfl (by decide +kernel) ⟨(by first | exact Nat.le_of_ble_eq_true rfl | (simp only [rm_X10_thinks, rm_X10_leads]; omega)), (by first | exact Nat.le_of_ble_eq_true rfl | (simp only [rm_X10_thinks, rm_X10_leads]; omega))⟩) hP hD hK hS hA hev rfl rfl rfl rfl hl.1 rfl (Nat.le_of_ble_eq_true rfl) dX10_leads_98 ⟨(by first | exact Nat.le_of_ble_eq_true rfl | (simp only [rm_X10_leads]; omega)), (by first | exact Nat.le_of_ble_eq_true rfl | (simp only [rm_X10_leads]; omega))⟩ (fun r u H locs hw hP hD hS => ?_)
                    obtain ⟨y4_12, y5_13, y6_14, y7_15, y14_16, y15_17⟩ := u
                    have hw : (r = none) ∧ (True) := hw
                    obtain ⟨rfl, hw_18⟩ := hw
                    have hP : va_P (dC, dI) vwCl (mw g h0 b i (va_up (va_up (va_up (va_up (va_up (va_up (va_up (va_up (va_up (va_up a 4 y4_12) 5 y5_13) 6 y6_14) 7 y7_15) 14 y14_16) 15 y15_17) 47 l47) 48 l48) 49 l49) 50 l50)) _ := hP
                    have hD : va_D _ (mw g h0 b i (va_up (va_up (va_up (va_up (va_up (va_up (va_up (va_up (va_up (va_up a 4 y4_12) 5 y5_13) 6 y6_14) 7 y7_15) 14 y14_16) 15 y15_17) 47 l47) 48 l48) 49 l49) 50 l50)) := hD
                    refine W.eq (g2 := F0 m 101 ls []) rfl ?_
                    refine lv_aload_n hx hb dX10_leads_101 rfl (lv_at hl 2 rfl) ?_
                    refine va_get (D := (dC, dI)) (ci := 10) (v := .ref (b 47)) (C := RX10) (T := TX10) (N := 51) hx hb hts inw_X10_leads_10 hown hK hP 0 rfl rfl 47 (by decide) (hts (.fieldLink RX10 93 "VatHouseModel" "keptVat" "[I") (by decide +kernel)) (fun _ h9 => h9) rfl dX10_leads_102 ?_
                    refine lv_iload_n hx hb dX10_leads_105 rfl (lv_at hl 4 rfl) ?_
                    refine lv_iload hx hb dX10_leads_106 (lv_at hl 1 rfl) ?_
                    refine va_iast hx hb hK hP hD hS 26 25 rfl rfl (by rw [hd]; exact vp_in_nI (by omega) (by decide)) dX10_leads_108 (fun H locs hP hD hS => ?_)
                    have hP : va_P (dC, dI) vwCl (mw g h0 b i (va_up (va_up (va_up (va_up (va_up (va_up (va_up (va_up (va_up (va_up a 4 y4_12) 5 y5_13) 6 y6_14) 7 y7_15) 14 y14_16) 15 y15_17) 47 (upd l47 de.toNatClampNeg ii)) 48 l48) 49 l49) 50 l50)) _ := hP
                    have hD : va_D _ (mw g h0 b i (va_up (va_up (va_up (va_up (va_up (va_up (va_up (va_up (va_up (va_up a 4 y4_12) 5 y5_13) 6 y6_14) 7 y7_15) 14 y14_16) 15 y15_17) 47 (upd l47 de.toNatClampNeg ii)) 48 l48) 49 l49) 50 l50)) := hD
                    obtain ⟨f_19, ef_19⟩ : ∃ z, z = (upd l47 de.toNatClampNeg ii) := ⟨_, rfl⟩
                    rw [← ef_19] at hP hD
                    refine lv_aload_n hx hb dX10_leads_109 rfl (lv_at hl 2 rfl) ?_
                    refine va_get (D := (dC, dI)) (ci := 10) (v := .ref (b 48)) (C := RX10) (T := TX10) (N := 51) hx hb hts inw_X10_leads_10 hown hK hP 0 rfl rfl 48 (by decide) (hts (.fieldLink RX10 96 "VatHouseModel" "keptMinutes" "[I") (by decide +kernel)) (fun _ h9 => h9) rfl dX10_leads_110 ?_
                    refine lv_iload_n hx hb dX10_leads_113 rfl (lv_at hl 4 rfl) ?_
                    refine lv_iload hx hb dX10_leads_114 (lv_at hl 0 rfl) ?_
                    refine va_iast hx hb hK hP hD hS 27 26 rfl rfl (by rw [hd]; exact vp_in_nI (by omega) (by decide)) dX10_leads_116 (fun H locs hP hD hS => ?_)
                    have hP : va_P (dC, dI) vwCl (mw g h0 b i (va_up (va_up (va_up (va_up (va_up (va_up (va_up (va_up (va_up (va_up a 4 y4_12) 5 y5_13) 6 y6_14) 7 y7_15) 14 y14_16) 15 y15_17) 47 f_19) 48 (upd l48 de.toNatClampNeg mx)) 49 l49) 50 l50)) _ := hP
                    have hD : va_D _ (mw g h0 b i (va_up (va_up (va_up (va_up (va_up (va_up (va_up (va_up (va_up (va_up a 4 y4_12) 5 y5_13) 6 y6_14) 7 y7_15) 14 y14_16) 15 y15_17) 47 f_19) 48 (upd l48 de.toNatClampNeg mx)) 49 l49) 50 l50)) := hD
                    obtain ⟨f_20, ef_20⟩ : ∃ z, z = (upd l48 de.toNatClampNeg mx) := ⟨_, rfl⟩
                    rw [← ef_20] at hP hD
                    refine lv_aload_n hx hb dX10_leads_117 rfl (lv_at hl 2 rfl) ?_
                    refine va_get (D := (dC, dI)) (ci := 10) (v := .ref (b 49)) (C := RX10) (T := TX10) (N := 51) hx hb hts inw_X10_leads_10 hown hK hP 0 rfl rfl 49 (by decide) (hts (.fieldLink RX10 99 "VatHouseModel" "keptShade" "[I") (by decide +kernel)) (fun _ h9 => h9) rfl dX10_leads_118 ?_
                    refine lv_iload_n hx hb dX10_leads_121 rfl (lv_at hl 4 rfl) ?_
                    refine lv_aload_n hx hb dX10_leads_122 rfl (lv_at hl 2 rfl) ?_
                    refine lv_iload_n hx hb dX10_leads_123 rfl (lv_at hl 3 rfl) ?_
                    refine M_V ⟨hx, hb, hml, hown, hts⟩ (m_X10_shadeOf l dC dI sa g h0 b i (va_up (va_up (va_up (va_up (va_up (va_up (va_up (va_up (va_up (va_up a 4 y4_12) 5 y5_13) 6 y6_14) 7 y7_15) 14 y14_16) 15 y15_17) 47 f_19) 48 f_20) 49 l49) 50 l50) ck _ hc30 hwt) (cwV 1 hts gX10_leads_X10_shadeOf rfl rfl rfl (by decide +kernel) ⟨(by first | exact Nat.le_of_ble_eq_true rfl | (simp only [rm_X10_shadeOf, rm_X10_leads]; omega)), (by first | exact Nat.le_of_ble_eq_true rfl | (simp only [rm_X10_shadeOf, rm_X10_leads]; omega))⟩) hP hD hK hS hA hev rfl rfl rfl rfl hl.1 rfl (Nat.le_of_ble_eq_true rfl) dX10_leads_124 ⟨(by first | exact Nat.le_of_ble_eq_true rfl | (simp only [rm_X10_leads]; omega)), (by first | exact Nat.le_of_ble_eq_true rfl | (simp only [rm_X10_leads]; omega))⟩ (fun r u H locs hw hP hD hS => ?_)
                    have hw : (∃ z : Int32, r = some (.int z)) ∧ (True) := hw
                    obtain ⟨⟨z_22, rfl⟩, hw_21⟩ := hw
                    have hP : va_P (dC, dI) vwCl (mw g h0 b i (va_up (va_up (va_up (va_up (va_up (va_up (va_up (va_up (va_up (va_up a 4 y4_12) 5 y5_13) 6 y6_14) 7 y7_15) 14 y14_16) 15 y15_17) 47 f_19) 48 f_20) 49 l49) 50 l50)) _ := hP
                    have hD : va_D _ (mw g h0 b i (va_up (va_up (va_up (va_up (va_up (va_up (va_up (va_up (va_up (va_up a 4 y4_12) 5 y5_13) 6 y6_14) 7 y7_15) 14 y14_16) 15 y15_17) 47 f_19) 48 f_20) 49 l49) 50 l50)) := hD
                    refine W.eq (g2 := F0 m 127 ls [.int z_22, .int de, .ref (b 49)]) rfl ?_
                    refine va_iast hx hb hK hP hD hS 28 27 rfl rfl (by rw [hd]; exact vp_in_nI (by omega) (by decide)) dX10_leads_127 (fun H locs hP hD hS => ?_)
                    have hP : va_P (dC, dI) vwCl (mw g h0 b i (va_up (va_up (va_up (va_up (va_up (va_up (va_up (va_up (va_up (va_up a 4 y4_12) 5 y5_13) 6 y6_14) 7 y7_15) 14 y14_16) 15 y15_17) 47 f_19) 48 f_20) 49 (upd l49 de.toNatClampNeg z_22)) 50 l50)) _ := hP
                    have hD : va_D _ (mw g h0 b i (va_up (va_up (va_up (va_up (va_up (va_up (va_up (va_up (va_up (va_up a 4 y4_12) 5 y5_13) 6 y6_14) 7 y7_15) 14 y14_16) 15 y15_17) 47 f_19) 48 f_20) 49 (upd l49 de.toNatClampNeg z_22)) 50 l50)) := hD
                    obtain ⟨f_23, ef_23⟩ : ∃ z, z = (upd l49 de.toNatClampNeg z_22) := ⟨_, rfl⟩
                    rw [← ef_23] at hP hD
                    refine lv_aload_n hx hb dX10_leads_128 rfl (lv_at hl 2 rfl) ?_
                    refine lv_iload_n hx hb dX10_leads_129 rfl (lv_at hl 3 rfl) ?_
                    refine lv_iload_n hx hb dX10_leads_130 rfl (lv_at hl 4 rfl) ?_
                    refine lv_iconst (v := 1) hx hb dX10_leads_131 (by decide) ?_
                    refine lv_iadd hx hb dX10_leads_132 ?_
                    refine lv_topi (fun z_24 ez_24 => ?_)
                    refine lv_iload_n hx hb dX10_leads_133 rfl (lv_at hl 5 rfl) ?_
                    refine lv_iload hx hb dX10_leads_134 (lv_at hl 6 rfl) ?_
                    refine lv_iload hx hb dX10_leads_136 (lv_at hl 7 rfl) ?_
                    refine M_V ⟨hx, hb, hml, hown, hts⟩ (IHL j1 (d + 1) hj1 i (va_up (va_up (va_up (va_up (va_up (va_up (va_up (va_up (va_up (va_up a 4 y4_12) 5 y5_13) 6 y6_14) 7 y7_15) 14 y14_16) 15 y15_17) 47 f_19) 48 f_20) 49 f_23) 50 l50) ck z_24 my lw hg _ (by rw [ez_24, hd]; exact nI_1 d) (by rw [hmy]; exact congrArg nI (by omega)) (by omega) hc30 hwt) (cwV 5 hts gX10_leads_X10_leads rfl rfl rfl (by decide +kernel) ⟨(by first | exact Nat.le_of_ble_eq_true rfl | (simp only [rm_X10_leads, rm_X10_leads]; omega)), (by first | exact Nat.le_of_ble_eq_true rfl | (simp only [rm_X10_leads, rm_X10_leads]; omega))⟩) hP hD hK hS hA hev rfl rfl rfl rfl hl.1 rfl (Nat.le_of_ble_eq_true rfl) dX10_leads_138 ⟨(by first | exact Nat.le_of_ble_eq_true rfl | (simp only [rm_X10_leads]; omega)), (by first | exact Nat.le_of_ble_eq_true rfl | (simp only [rm_X10_leads]; omega))⟩ (fun r u H locs hw hP hD hS => ?_)
                    obtain ⟨y4_25, y5_26, y6_27, y7_28, y14_29, y15_30, y47_31, y48_32, y49_33, y50_34⟩ := u
                    have hw : (∃ z : Int32, r = some (.int z) ∧ (z = 0 ∨ z = 1)) ∧ (True) := hw
                    obtain ⟨⟨z_36, rfl, hz_z_36⟩, hw_35⟩ := hw
                    have hP : va_P (dC, dI) vwCl (mw g h0 b i (va_up (va_up (va_up (va_up (va_up (va_up (va_up (va_up (va_up (va_up a 4 y4_25) 5 y5_26) 6 y6_27) 7 y7_28) 14 y14_29) 15 y15_30) 47 y47_31) 48 y48_32) 49 y49_33) 50 y50_34)) _ := hP
                    have hD : va_D _ (mw g h0 b i (va_up (va_up (va_up (va_up (va_up (va_up (va_up (va_up (va_up (va_up a 4 y4_25) 5 y5_26) 6 y6_27) 7 y7_28) 14 y14_29) 15 y15_30) 47 y47_31) 48 y48_32) 49 y49_33) 50 y50_34)) := hD
                    refine W.eq (g2 := F0 m 141 ls [.int z_36]) rfl ?_
                    refine lv_istore (lv' := [(8, .int z_36), (7, .int mx), (6, .int ii), (0, .ref h0), (1, .int ck), (2, .int de), (3, .int my), (4, .int lw), (5, .int hg)]) hx hb dX10_leads_141 hl (by decide) rfl (fun ls hl => ?_)
                    refine lv_aload_n hx hb dX10_leads_143 rfl (lv_at hl 3 rfl) ?_
                    refine lv_iload_n hx hb dX10_leads_144 rfl (lv_at hl 5 rfl) ?_
                    refine lv_iload_n hx hb dX10_leads_145 rfl (lv_at hl 4 rfl) ?_
                    refine M_V ⟨hx, hb, hml, hown, hts⟩ (m_X10_restores l dC dI sa g h0 b i (va_up (va_up (va_up (va_up (va_up (va_up (va_up (va_up (va_up (va_up a 4 y4_25) 5 y5_26) 6 y6_27) 7 y7_28) 14 y14_29) 15 y15_30) 47 y47_31) 48 y48_32) 49 y49_33) 50 y50_34) de ck _ (by rw [hd, nI_toInt (by omega)]; omega) hc30) (cwV 2 hts gX10_leads_X10_restores rfl rfl rfl (by decide +kernel) ⟨(by first | exact Nat.le_of_ble_eq_true rfl | (simp only [rm_X10_restores, rm_X10_leads]; omega)), (by first | exact Nat.le_of_ble_eq_true rfl | (simp only [rm_X10_restores, rm_X10_leads]; omega))⟩) hP hD hK hS hA hev rfl rfl rfl rfl hl.1 rfl (Nat.le_of_ble_eq_true rfl) dX10_leads_146 ⟨(by first | exact Nat.le_of_ble_eq_true rfl | (simp only [rm_X10_leads]; omega)), (by first | exact Nat.le_of_ble_eq_true rfl | (simp only [rm_X10_leads]; omega))⟩ (fun r u H locs hw hP hD hS => ?_)
                    obtain ⟨y4_37, y5_38, y6_39, y7_40, y14_41, y15_42⟩ := u
                    have hw : (r = none) ∧ (True) := hw
                    obtain ⟨rfl, hw_43⟩ := hw
                    have hP : va_P (dC, dI) vwCl (mw g h0 b i (va_up (va_up (va_up (va_up (va_up (va_up (va_up (va_up (va_up (va_up a 4 y4_37) 5 y5_38) 6 y6_39) 7 y7_40) 14 y14_41) 15 y15_42) 47 y47_31) 48 y48_32) 49 y49_33) 50 y50_34)) _ := hP
                    have hD : va_D _ (mw g h0 b i (va_up (va_up (va_up (va_up (va_up (va_up (va_up (va_up (va_up (va_up a 4 y4_37) 5 y5_38) 6 y6_39) 7 y7_40) 14 y14_41) 15 y15_42) 47 y47_31) 48 y48_32) 49 y49_33) 50 y50_34)) := hD
                    refine W.eq (g2 := F0 m 149 ls []) rfl ?_
                    refine lv_iload hx hb dX10_leads_149 (lv_at hl 0 rfl) ?_
                    refine lv_if_eq (tgt := 156) hx hb dX10_leads_151 (by decide) (fun c_44 => ?_) (fun c_44 => ?_)
                    · have nc_44 := eq_i c_44
                      have lc_44 : (0 : Int32).toInt = 0 := by decide
                      refine lv_iload hx hb dX10_leads_156 (lv_at hl 1 rfl) ?_
                      refine lv_iconst (v := 2) hx hb dX10_leads_158 (by decide) ?_
                      refine lv_imul hx hb dX10_leads_159 ?_
                      refine lv_topi (fun z_45 ez_45 => ?_)
                      refine lv_istore (lv' := [(7, .int z_45), (8, .int z_36), (6, .int ii), (0, .ref h0), (1, .int ck), (2, .int de), (3, .int my), (4, .int lw), (5, .int hg)]) hx hb dX10_leads_160 hl (by decide) rfl (fun ls hl => ?_)
                      refine lv_goto (tgt := 59) hx hb dX10_leads_162 (by decide) ?_
                      exact ih z_45 y4_37 y5_38 y6_39 y7_40 y14_41 y15_42 y47_31 y48_32 y49_33 y50_34 _ _ _ (hm.nx c_5 ez_45)  hP hD hS (lv_sub hl [0, 2, 3, 4, 5, 6, 7, 8] rfl)
                    · have nc_44 := ne_i c_44
                      have lc_44 : (0 : Int32).toInt = 0 := by decide
                      refine lv_iconst (v := 1) hx hb dX10_leads_154 (by decide) ?_
                      exact M_z hx hb hr rfl hlocks (y4_37, y5_38, y6_39, y7_40, y14_41, y15_42, y47_31, y48_32, y49_33, y50_34) hP hD hK hS ⟨⟨_, rfl, Or.inr rfl⟩, trivial⟩ (by first | exact Nat.le_of_ble_eq_true rfl | (simp only [rm_X10_leads]; omega)) (by first | exact Nat.le_of_ble_eq_true rfl | (simp only [rm_X10_leads]; omega)) dX10_leads_155
                  · have nc_11 := eq_i c_11
                    have lc_11 : (0 : Int32).toInt = 0 := by decide
                    refine lv_goto (tgt := 156) hx hb dX10_leads_89 (by decide) ?_
                    refine lv_iload hx hb dX10_leads_156 (lv_at hl 0 rfl) ?_
                    refine lv_iconst (v := 2) hx hb dX10_leads_158 (by decide) ?_
                    refine lv_imul hx hb dX10_leads_159 ?_
                    refine lv_topi (fun z_46 ez_46 => ?_)
                    refine lv_istore (lv' := [(7, .int z_46), (6, .int ii), (0, .ref h0), (1, .int ck), (2, .int de), (3, .int my), (4, .int lw), (5, .int hg)]) hx hb dX10_leads_160 hl (by decide) rfl (fun ls hl => ?_)
                    refine lv_goto (tgt := 59) hx hb dX10_leads_162 (by decide) ?_
                    exact ih z_46 l4 l5 l6 l7 l14 l15 l47 l48 l49 l50 _ _ _ (hm.nx c_5 ez_46)  hP hD hS (lv_sub hl [0, 1, 2, 3, 4, 5, 6, 7] rfl)
          exact lp 5 (1 : Int32) l4O l5O l6O l7O l14O l15O l47O l48O l49O l50O _ _ _ (Or.inl ⟨rfl, by omega⟩)  hP hD hS (lv_sub hl [0, 1, 2, 3, 4, 5, 6, 7] rfl)
    exact lpO 7 (0 : Int32) (a 4) (a 5) (a 6) (a 7) (a 14) (a 15) (a 47) (a 48) (a 49) y50_2 _ _ _ (⟨0, nI_0.symm, by omega, by omega⟩)  hP hD hS (lv_sub hl [0, 1, 2, 3, 4, 5, 6] rfl)
  · have nc_1 := eq_i c_1
    refine lv_aload_n hx hb dX10_leads_5 rfl (lv_at hl 0 rfl) ?_
    refine va_get (D := (dC, dI)) (ci := 10) (v := .ref (b 14)) (C := RX10) (T := TX10) (N := 51) hx hb hts inw_X10_leads_10 hown hK hP 0 rfl rfl 14 (by decide) (hts (.fieldLink RX10 38 "VatHouseModel" "loose" "[I") (by decide +kernel)) (fun _ h9 => h9) rfl dX10_leads_6 ?_
    refine lv_iload_n hx hb dX10_leads_9 rfl (lv_at hl 1 rfl) ?_
    refine va_iald hx hb hK hP 10 9 rfl rfl (by assumption) dX10_leads_10 ?_
    refine lv_topi (fun z_47 ez_47 => ?_)
    have ez_47 : z_47 = (a 14) ck.toNatClampNeg := ez_47
    refine lv_if_ne (tgt := 38) hx hb dX10_leads_11 (by decide) (fun c_48 => ?_) (fun c_48 => ?_)
    · have nc_48 := ne_i c_48
      have lc_48 : (0 : Int32).toInt = 0 := by decide
      refine lv_iconst (v := 0) hx hb dX10_leads_38 (by decide) ?_
      exact M_z hx hb hr rfl hlocks ((a 4), (a 5), (a 6), (a 7), (a 14), (a 15), (a 47), (a 48), (a 49), (a 50)) hP hD hK hS ⟨⟨_, rfl, Or.inl rfl⟩, trivial⟩ (by first | exact Nat.le_of_ble_eq_true rfl | (simp only [rm_X10_leads]; omega)) (by first | exact Nat.le_of_ble_eq_true rfl | (simp only [rm_X10_leads]; omega)) dX10_leads_39
    · have nc_48 := eq_i c_48
      have lc_48 : (0 : Int32).toInt = 0 := by decide
      refine lv_aload_n hx hb dX10_leads_14 rfl (lv_at hl 0 rfl) ?_
      refine lv_iload_n hx hb dX10_leads_15 rfl (lv_at hl 1 rfl) ?_
      refine M_V ⟨hx, hb, hml, hown, hts⟩ (m_X10_shadeOf l dC dI sa g h0 b i a ck _ hc30 hwt) (cwV 1 hts gX10_leads_X10_shadeOf rfl rfl rfl (by decide +kernel) ⟨(by first | exact Nat.le_of_ble_eq_true rfl | (simp only [rm_X10_shadeOf, rm_X10_leads]; omega)), (by first | exact Nat.le_of_ble_eq_true rfl | (simp only [rm_X10_shadeOf, rm_X10_leads]; omega))⟩) hP hD hK hS hA hev rfl rfl rfl rfl hl.1 rfl (Nat.le_of_ble_eq_true rfl) dX10_leads_16 ⟨(by first | exact Nat.le_of_ble_eq_true rfl | (simp only [rm_X10_leads]; omega)), (by first | exact Nat.le_of_ble_eq_true rfl | (simp only [rm_X10_leads]; omega))⟩ (fun r u H locs hw hP hD hS => ?_)
      have hw : (∃ z : Int32, r = some (.int z)) ∧ (True) := hw
      obtain ⟨⟨z_50, rfl⟩, hw_49⟩ := hw
      have hP : va_P (dC, dI) vwCl (mw g h0 b i a) _ := hP
      have hD : va_D _ (mw g h0 b i a) := hD
      refine W.eq (g2 := F0 m 19 ls [.int z_50]) rfl ?_
      refine lv_iload hx hb dX10_leads_19 (lv_at hl 4 rfl) ?_
      refine lv_icmp_lt (tgt := 38) hx hb dX10_leads_21 (by decide) (fun c_51 => ?_) (fun c_51 => ?_)
      · have nc_51 := lt_i c_51
        refine lv_iconst (v := 0) hx hb dX10_leads_38 (by decide) ?_
        exact M_z hx hb hr rfl hlocks ((a 4), (a 5), (a 6), (a 7), (a 14), (a 15), (a 47), (a 48), (a 49), (a 50)) hP hD hK hS ⟨⟨_, rfl, Or.inl rfl⟩, trivial⟩ (by first | exact Nat.le_of_ble_eq_true rfl | (simp only [rm_X10_leads]; omega)) (by first | exact Nat.le_of_ble_eq_true rfl | (simp only [rm_X10_leads]; omega)) dX10_leads_39
      · have nc_51 := nlt_i c_51
        refine lv_aload_n hx hb dX10_leads_24 rfl (lv_at hl 0 rfl) ?_
        refine lv_iload_n hx hb dX10_leads_25 rfl (lv_at hl 1 rfl) ?_
        refine M_V ⟨hx, hb, hml, hown, hts⟩ (m_X10_shadeOf l dC dI sa g h0 b i a ck _ hc30 hwt) (cwV 1 hts gX10_leads_X10_shadeOf rfl rfl rfl (by decide +kernel) ⟨(by first | exact Nat.le_of_ble_eq_true rfl | (simp only [rm_X10_shadeOf, rm_X10_leads]; omega)), (by first | exact Nat.le_of_ble_eq_true rfl | (simp only [rm_X10_shadeOf, rm_X10_leads]; omega))⟩) hP hD hK hS hA hev rfl rfl rfl rfl hl.1 rfl (Nat.le_of_ble_eq_true rfl) dX10_leads_26 ⟨(by first | exact Nat.le_of_ble_eq_true rfl | (simp only [rm_X10_leads]; omega)), (by first | exact Nat.le_of_ble_eq_true rfl | (simp only [rm_X10_leads]; omega))⟩ (fun r u H locs hw hP hD hS => ?_)
        have hw : (∃ z : Int32, r = some (.int z)) ∧ (True) := hw
        obtain ⟨⟨z_53, rfl⟩, hw_52⟩ := hw
        have hP : va_P (dC, dI) vwCl (mw g h0 b i a) _ := hP
        have hD : va_D _ (mw g h0 b i a) := hD
        refine W.eq (g2 := F0 m 29 ls [.int z_53]) rfl ?_
        refine lv_iload hx hb dX10_leads_29 (lv_at hl 5 rfl) ?_
        refine lv_icmp_gt (tgt := 38) hx hb dX10_leads_31 (by decide) (fun c_54 => ?_) (fun c_54 => ?_)
        · have nc_54 := lt_i c_54
          refine lv_iconst (v := 0) hx hb dX10_leads_38 (by decide) ?_
          exact M_z hx hb hr rfl hlocks ((a 4), (a 5), (a 6), (a 7), (a 14), (a 15), (a 47), (a 48), (a 49), (a 50)) hP hD hK hS ⟨⟨_, rfl, Or.inl rfl⟩, trivial⟩ (by first | exact Nat.le_of_ble_eq_true rfl | (simp only [rm_X10_leads]; omega)) (by first | exact Nat.le_of_ble_eq_true rfl | (simp only [rm_X10_leads]; omega)) dX10_leads_39
        · have nc_54 := nlt_i c_54
          refine lv_iconst (v := 1) hx hb dX10_leads_34 (by decide) ?_
          refine lv_goto (tgt := 39) hx hb dX10_leads_35 (by decide) ?_
          exact M_z hx hb hr rfl hlocks ((a 4), (a 5), (a 6), (a 7), (a 14), (a 15), (a 47), (a 48), (a 49), (a 50)) hP hD hK hS ⟨⟨_, rfl, Or.inr rfl⟩, trivial⟩ (by first | exact Nat.le_of_ble_eq_true rfl | (simp only [rm_X10_leads]; omega)) (by first | exact Nat.le_of_ble_eq_true rfl | (simp only [rm_X10_leads]; omega)) dX10_leads_39

theorem X10_leads_all (l : Launch) (dC : Nat → ClassId) (dI : Nat → Nat → Nat) (sa : Nat → Nat) (g : Nat → Nat) (h0 : Nat) (b : Nat → Nat) : ∀ (j d : Nat), ∀ (i : Nat → Int32) (a : Nat → Nat → Int32) (ck : Int32) (de : Int32) (my : Int32) (lw : Int32) (hg : Int32) (sz : Nat) (hd : de = nI d) (hmy : my = nI (d + j)) (h3 : d + j ≤ 3) (hc30 : vp_in ck 30) (hwt : 1 ≤ ((a 13) ck.toNatClampNeg).toInt ∧ ((a 13) ck.toNatClampNeg).toInt ≤ 50), CT l dC dI sa yX10_leads wsX10_leads (rm_X10_leads j d) [.ref h0, .int ck, .int de, .int my, .int lw, .int hg] (mw g h0 b i a) (tyM g) sz (fun (r : Option Value) (u : (Nat → Int32) × (Nat → Int32) × (Nat → Int32) × (Nat → Int32) × (Nat → Int32) × (Nat → Int32) × (Nat → Int32) × (Nat → Int32) × (Nat → Int32) × (Nat → Int32)) => match u with | (y4, y5, y6, y7, y14, y15, y47, y48, y49, y50) => (∃ z : Int32, r = some (.int z) ∧ (z = 0 ∨ z = 1)) ∧ (True)) (fun (u : (Nat → Int32) × (Nat → Int32) × (Nat → Int32) × (Nat → Int32) × (Nat → Int32) × (Nat → Int32) × (Nat → Int32) × (Nat → Int32) × (Nat → Int32) × (Nat → Int32)) => match u with | (y4, y5, y6, y7, y14, y15, y47, y48, y49, y50) => mw g h0 b i (va_up (va_up (va_up (va_up (va_up (va_up (va_up (va_up (va_up (va_up a 4 y4) 5 y5) 6 y6) 7 y7) 14 y14) 15 y15) 47 y47) 48 y48) 49 y49) 50 y50)) (fun _ => []) 0 0 := by
  intro j
  induction j with
  | zero => exact fun d i a ck de my lw hg sz hd hmy h3 hc hw => m_X10_leads l dC dI sa g h0 b 0 d i a ck de my lw hg sz hd hmy h3 hc hw (fun j' d' h => absurd h (by omega))
  | succ j ih =>
    exact fun d i a ck de my lw hg sz hd hmy h3 hc hw => m_X10_leads l dC dI sa g h0 b (j + 1) d i a ck de my lw hg sz hd hmy h3 hc hw (fun j' d' h => by
      obtain rfl : j = j' := by omega
      exact ih d')

abbrev rm_X10_plan : Room := { frames := 40, cells := 0, slots := 0, locals := 900 }
theorem inw_X10_plan_10 : ∀ w ∈ wsX100, w ∈ wsX10_plan := by decide +kernel
set_option maxHeartbeats 1000000 in
set_option maxRecDepth 100000 in
theorem m_X10_plan (l : Launch) (dC : Nat → ClassId) (dI : Nat → Nat → Nat) (sa : Nat → Nat) (g : Nat → Nat) (h0 : Nat) (b : Nat → Nat) (i : Nat → Int32) (a : Nat → Nat → Int32) (ck : Int32) (lw : Int32) (hg : Int32) (mo : Int32) (sz : Nat) (hCI : CI (i 12) (a 13)) (hkp : (i 46).toInt ≤ 3) : CT l dC dI sa yX10_plan wsX10_plan (rm_X10_plan ) [.ref h0, .int ck, .int lw, .int hg, .int mo] (mw g h0 b i a) (tyM g) sz (fun (r : Option Value) (u : Int32 × Int32 × (Nat → Int32) × (Nat → Int32) × (Nat → Int32) × (Nat → Int32) × (Nat → Int32) × (Nat → Int32) × (Nat → Int32) × (Nat → Int32) × (Nat → Int32) × (Nat → Int32)) => match u with | (x0, x46, y4, y5, y6, y7, y14, y15, y47, y48, y49, y50) => (∃ z : Int32, r = some (.int z)) ∧ (x46.toInt ≤ 3)) (fun (u : Int32 × Int32 × (Nat → Int32) × (Nat → Int32) × (Nat → Int32) × (Nat → Int32) × (Nat → Int32) × (Nat → Int32) × (Nat → Int32) × (Nat → Int32) × (Nat → Int32) × (Nat → Int32)) => match u with | (x0, x46, y4, y5, y6, y7, y14, y15, y47, y48, y49, y50) => mw g h0 b (va_up (va_up i 0 x0) 46 x46) (va_up (va_up (va_up (va_up (va_up (va_up (va_up (va_up (va_up (va_up a 4 y4) 5 y5) 6 y6) 7 y7) 14 y14) 15 y15) 47 y47) 48 y48) 49 y49) 50 y50)) (fun _ => []) 0 0 := by
  refine CT.start (cc := cX10_plan) (maxL := 6) (ret := (some .int)) (by decide) rfl (Nat.le_of_ble_eq_true rfl) ?_
  intro p e s m below meth c ls hst hP hK hD hev hS hl
  obtain ⟨hx, hb, hr, hml, hts, hown, hlocks, hin⟩ := hst
  have hown : s.vm.findClass RX10 = some m.cls := hown
  have hA : ∀ q : Nat, s.heap.size ≤ q → va_A (mw g h0 b i a) s.heap.size q := fun _ h => Or.inr h
  have hl : lv_has ls 6 [(0, .ref h0), (1, .int ck), (2, .int lw), (3, .int hg), (4, .int mo)] := hl
  refine lv_aload_n hx hb dX10_plan_0 rfl (lv_at hl 0 rfl) ?_
  refine lv_iload_n hx hb dX10_plan_1 rfl (lv_at hl 1 rfl) ?_
  refine M_V ⟨hx, hb, hml, hown, hts⟩ (m_X10_isCloth l dC dI sa g h0 b i a ck _ ) (cwV 1 hts gX10_plan_X10_isCloth rfl rfl rfl (by decide +kernel) ⟨(by first | exact Nat.le_of_ble_eq_true rfl | (simp only [rm_X10_isCloth, rm_X10_plan]; omega)), (by first | exact Nat.le_of_ble_eq_true rfl | (simp only [rm_X10_isCloth, rm_X10_plan]; omega))⟩) hP hD hK hS hA hev rfl rfl rfl rfl hl.1 rfl (Nat.le_of_ble_eq_true rfl) dX10_plan_2 ⟨(by first | exact Nat.le_of_ble_eq_true rfl | (simp only [rm_X10_plan]; omega)), (by first | exact Nat.le_of_ble_eq_true rfl | (simp only [rm_X10_plan]; omega))⟩ (fun r u H locs hw hP hD hS => ?_)
  obtain ⟨x0_1, rfl⟩ : ∃ z, z = u := ⟨_, rfl⟩
  have hw : ((r = some (.int 0) ∧ (True)) ∨ (r = some (.int 1) ∧ (0 ≤ ck.toInt ∧ ck.toInt < (i 12).toInt))) ∧ (True) := hw
  obtain ⟨⟨rfl, hz2_3⟩ | ⟨rfl, hz2_3⟩, hw_2⟩ := hw
  · have hP : va_P (dC, dI) vwCl (mw g h0 b (va_up i 0 x0_1) a) _ := hP
    have hD : va_D _ (mw g h0 b (va_up i 0 x0_1) a) := hD
    refine W.eq (g2 := F0 m 5 ls [.int 0]) rfl ?_
    refine lv_if_eq (tgt := 41) hx hb dX10_plan_5 (by decide) (fun _ => ?_) (fun c_4 => absurd c_4 (by decide))
    refine lv_iconst (v := 0) hx hb dX10_plan_41 (by decide) ?_
    exact M_i hx hb hr hlocks (x0_1, (i 46), (a 4), (a 5), (a 6), (a 7), (a 14), (a 15), (a 47), (a 48), (a 49), (a 50)) hP hD hK hS ⟨⟨_, rfl⟩, hkp⟩ (by first | exact Nat.le_of_ble_eq_true rfl | (simp only [rm_X10_plan]; omega)) (by first | exact Nat.le_of_ble_eq_true rfl | (simp only [rm_X10_plan]; omega)) dX10_plan_42
  · have hP : va_P (dC, dI) vwCl (mw g h0 b (va_up i 0 x0_1) a) _ := hP
    have hD : va_D _ (mw g h0 b (va_up i 0 x0_1) a) := hD
    refine W.eq (g2 := F0 m 5 ls [.int 1]) rfl ?_
    obtain ⟨hc30, hwt⟩ := hCI.at hz2_3
    refine lv_if_eq (tgt := 41) hx hb dX10_plan_5 (by decide) (fun c_5 => absurd c_5 (by decide)) (fun _ => ?_)
    refine lv_aload_n hx hb dX10_plan_8 rfl (lv_at hl 0 rfl) ?_
    refine lv_iload hx hb dX10_plan_9 (lv_at hl 4 rfl) ?_
    refine lv_if_lt (tgt := 33) hx hb dX10_plan_11 (by decide) (fun c_6 => ?_) (fun c_6 => ?_)
    · have nc_6 := lt_i c_6
      have lc_6 : (0 : Int32).toInt = 0 := by decide
      refine lv_iconst (v := 0) hx hb dX10_plan_33 (by decide) ?_
      refine lv_iconst (v := 2) hx hb dX10_plan_34 (by decide) ?_
      refine M_V ⟨hx, hb, hml, hown, hts⟩ (m_X10_right l dC dI sa g h0 b (va_up i 0 x0_1) a (0 : Int32) (2 : Int32) _ (by decide)) (cwV 2 hts gX10_plan_X10_right rfl rfl rfl (by decide +kernel) ⟨(by first | exact Nat.le_of_ble_eq_true rfl | (simp only [rm_X10_right, rm_X10_plan]; omega)), (by first | exact Nat.le_of_ble_eq_true rfl | (simp only [rm_X10_right, rm_X10_plan]; omega))⟩) hP hD hK hS hA hev rfl rfl rfl rfl hl.1 rfl (Nat.le_of_ble_eq_true rfl) dX10_plan_35 ⟨(by first | exact Nat.le_of_ble_eq_true rfl | (simp only [rm_X10_plan]; omega)), (by first | exact Nat.le_of_ble_eq_true rfl | (simp only [rm_X10_plan]; omega))⟩ (fun r u H locs hw hP hD hS => ?_)
      obtain ⟨x0_7, rfl⟩ : ∃ z, z = u := ⟨_, rfl⟩
      have hw : ((r = some (.int 0) ∧ (True)) ∨ (r = some (.int 1) ∧ (¬ (0 : Int32) = 0))) ∧ (True) := hw
      obtain ⟨⟨rfl, hz2_9⟩ | ⟨rfl, hz2_9⟩, hw_8⟩ := hw
      · have hP : va_P (dC, dI) vwCl (mw g h0 b (va_up i 0 x0_7) a) _ := hP
        have hD : va_D _ (mw g h0 b (va_up i 0 x0_7) a) := hD
        refine W.eq (g2 := F0 m 38 ls [.int 0]) rfl ?_
        refine lv_if_ne (tgt := 43) hx hb dX10_plan_38 (by decide) (fun c_10 => absurd c_10 (by decide)) (fun _ => ?_)
        refine lv_iconst (v := 0) hx hb dX10_plan_41 (by decide) ?_
        exact M_i hx hb hr hlocks (x0_7, (i 46), (a 4), (a 5), (a 6), (a 7), (a 14), (a 15), (a 47), (a 48), (a 49), (a 50)) hP hD hK hS ⟨⟨_, rfl⟩, hkp⟩ (by first | exact Nat.le_of_ble_eq_true rfl | (simp only [rm_X10_plan]; omega)) (by first | exact Nat.le_of_ble_eq_true rfl | (simp only [rm_X10_plan]; omega)) dX10_plan_42
      · have hP : va_P (dC, dI) vwCl (mw g h0 b (va_up i 0 x0_7) a) _ := hP
        have hD : va_D _ (mw g h0 b (va_up i 0 x0_7) a) := hD
        refine W.eq (g2 := F0 m 38 ls [.int 1]) rfl ?_
        exact absurd rfl hz2_9
    · have nc_6 := nlt_i c_6
      have lc_6 : (0 : Int32).toInt = 0 := by decide
      refine lv_iload hx hb dX10_plan_14 (lv_at hl 4 rfl) ?_
      refine lv_iconst (v := 3) hx hb dX10_plan_16 (by decide) ?_
      refine lv_icmp_gt (tgt := 33) hx hb dX10_plan_17 (by decide) (fun c_11 => ?_) (fun c_11 => ?_)
      · have nc_11 := lt_i c_11
        have lc_11 : (3 : Int32).toInt = 3 := by decide
        refine lv_iconst (v := 0) hx hb dX10_plan_33 (by decide) ?_
        refine lv_iconst (v := 2) hx hb dX10_plan_34 (by decide) ?_
        refine M_V ⟨hx, hb, hml, hown, hts⟩ (m_X10_right l dC dI sa g h0 b (va_up i 0 x0_1) a (0 : Int32) (2 : Int32) _ (by decide)) (cwV 2 hts gX10_plan_X10_right rfl rfl rfl (by decide +kernel) ⟨(by first | exact Nat.le_of_ble_eq_true rfl | (simp only [rm_X10_right, rm_X10_plan]; omega)), (by first | exact Nat.le_of_ble_eq_true rfl | (simp only [rm_X10_right, rm_X10_plan]; omega))⟩) hP hD hK hS hA hev rfl rfl rfl rfl hl.1 rfl (Nat.le_of_ble_eq_true rfl) dX10_plan_35 ⟨(by first | exact Nat.le_of_ble_eq_true rfl | (simp only [rm_X10_plan]; omega)), (by first | exact Nat.le_of_ble_eq_true rfl | (simp only [rm_X10_plan]; omega))⟩ (fun r u H locs hw hP hD hS => ?_)
        obtain ⟨x0_12, rfl⟩ : ∃ z, z = u := ⟨_, rfl⟩
        have hw : ((r = some (.int 0) ∧ (True)) ∨ (r = some (.int 1) ∧ (¬ (0 : Int32) = 0))) ∧ (True) := hw
        obtain ⟨⟨rfl, hz2_14⟩ | ⟨rfl, hz2_14⟩, hw_13⟩ := hw
        · have hP : va_P (dC, dI) vwCl (mw g h0 b (va_up i 0 x0_12) a) _ := hP
          have hD : va_D _ (mw g h0 b (va_up i 0 x0_12) a) := hD
          refine W.eq (g2 := F0 m 38 ls [.int 0]) rfl ?_
          refine lv_if_ne (tgt := 43) hx hb dX10_plan_38 (by decide) (fun c_15 => absurd c_15 (by decide)) (fun _ => ?_)
          refine lv_iconst (v := 0) hx hb dX10_plan_41 (by decide) ?_
          exact M_i hx hb hr hlocks (x0_12, (i 46), (a 4), (a 5), (a 6), (a 7), (a 14), (a 15), (a 47), (a 48), (a 49), (a 50)) hP hD hK hS ⟨⟨_, rfl⟩, hkp⟩ (by first | exact Nat.le_of_ble_eq_true rfl | (simp only [rm_X10_plan]; omega)) (by first | exact Nat.le_of_ble_eq_true rfl | (simp only [rm_X10_plan]; omega)) dX10_plan_42
        · have hP : va_P (dC, dI) vwCl (mw g h0 b (va_up i 0 x0_12) a) _ := hP
          have hD : va_D _ (mw g h0 b (va_up i 0 x0_12) a) := hD
          refine W.eq (g2 := F0 m 38 ls [.int 1]) rfl ?_
          exact absurd rfl hz2_14
      · have nc_11 := nlt_i c_11
        have lc_11 : (3 : Int32).toInt = 3 := by decide
        refine lv_iload_n hx hb dX10_plan_20 rfl (lv_at hl 2 rfl) ?_
        refine lv_if_lt (tgt := 33) hx hb dX10_plan_21 (by decide) (fun c_16 => ?_) (fun c_16 => ?_)
        · have nc_16 := lt_i c_16
          have lc_16 : (0 : Int32).toInt = 0 := by decide
          refine lv_iconst (v := 0) hx hb dX10_plan_33 (by decide) ?_
          refine lv_iconst (v := 2) hx hb dX10_plan_34 (by decide) ?_
          refine M_V ⟨hx, hb, hml, hown, hts⟩ (m_X10_right l dC dI sa g h0 b (va_up i 0 x0_1) a (0 : Int32) (2 : Int32) _ (by decide)) (cwV 2 hts gX10_plan_X10_right rfl rfl rfl (by decide +kernel) ⟨(by first | exact Nat.le_of_ble_eq_true rfl | (simp only [rm_X10_right, rm_X10_plan]; omega)), (by first | exact Nat.le_of_ble_eq_true rfl | (simp only [rm_X10_right, rm_X10_plan]; omega))⟩) hP hD hK hS hA hev rfl rfl rfl rfl hl.1 rfl (Nat.le_of_ble_eq_true rfl) dX10_plan_35 ⟨(by first | exact Nat.le_of_ble_eq_true rfl | (simp only [rm_X10_plan]; omega)), (by first | exact Nat.le_of_ble_eq_true rfl | (simp only [rm_X10_plan]; omega))⟩ (fun r u H locs hw hP hD hS => ?_)
          obtain ⟨x0_17, rfl⟩ : ∃ z, z = u := ⟨_, rfl⟩
          have hw : ((r = some (.int 0) ∧ (True)) ∨ (r = some (.int 1) ∧ (¬ (0 : Int32) = 0))) ∧ (True) := hw
          obtain ⟨⟨rfl, hz2_19⟩ | ⟨rfl, hz2_19⟩, hw_18⟩ := hw
          · have hP : va_P (dC, dI) vwCl (mw g h0 b (va_up i 0 x0_17) a) _ := hP
            have hD : va_D _ (mw g h0 b (va_up i 0 x0_17) a) := hD
            refine W.eq (g2 := F0 m 38 ls [.int 0]) rfl ?_
            refine lv_if_ne (tgt := 43) hx hb dX10_plan_38 (by decide) (fun c_20 => absurd c_20 (by decide)) (fun _ => ?_)
            refine lv_iconst (v := 0) hx hb dX10_plan_41 (by decide) ?_
            exact M_i hx hb hr hlocks (x0_17, (i 46), (a 4), (a 5), (a 6), (a 7), (a 14), (a 15), (a 47), (a 48), (a 49), (a 50)) hP hD hK hS ⟨⟨_, rfl⟩, hkp⟩ (by first | exact Nat.le_of_ble_eq_true rfl | (simp only [rm_X10_plan]; omega)) (by first | exact Nat.le_of_ble_eq_true rfl | (simp only [rm_X10_plan]; omega)) dX10_plan_42
          · have hP : va_P (dC, dI) vwCl (mw g h0 b (va_up i 0 x0_17) a) _ := hP
            have hD : va_D _ (mw g h0 b (va_up i 0 x0_17) a) := hD
            refine W.eq (g2 := F0 m 38 ls [.int 1]) rfl ?_
            exact absurd rfl hz2_19
        · have nc_16 := nlt_i c_16
          have lc_16 : (0 : Int32).toInt = 0 := by decide
          refine lv_iload_n hx hb dX10_plan_24 rfl (lv_at hl 2 rfl) ?_
          refine lv_iload_n hx hb dX10_plan_25 rfl (lv_at hl 3 rfl) ?_
          refine lv_icmp_gt (tgt := 33) hx hb dX10_plan_26 (by decide) (fun c_21 => ?_) (fun c_21 => ?_)
          · have nc_21 := lt_i c_21
            refine lv_iconst (v := 0) hx hb dX10_plan_33 (by decide) ?_
            refine lv_iconst (v := 2) hx hb dX10_plan_34 (by decide) ?_
            refine M_V ⟨hx, hb, hml, hown, hts⟩ (m_X10_right l dC dI sa g h0 b (va_up i 0 x0_1) a (0 : Int32) (2 : Int32) _ (by decide)) (cwV 2 hts gX10_plan_X10_right rfl rfl rfl (by decide +kernel) ⟨(by first | exact Nat.le_of_ble_eq_true rfl | (simp only [rm_X10_right, rm_X10_plan]; omega)), (by first | exact Nat.le_of_ble_eq_true rfl | (simp only [rm_X10_right, rm_X10_plan]; omega))⟩) hP hD hK hS hA hev rfl rfl rfl rfl hl.1 rfl (Nat.le_of_ble_eq_true rfl) dX10_plan_35 ⟨(by first | exact Nat.le_of_ble_eq_true rfl | (simp only [rm_X10_plan]; omega)), (by first | exact Nat.le_of_ble_eq_true rfl | (simp only [rm_X10_plan]; omega))⟩ (fun r u H locs hw hP hD hS => ?_)
            obtain ⟨x0_22, rfl⟩ : ∃ z, z = u := ⟨_, rfl⟩
            have hw : ((r = some (.int 0) ∧ (True)) ∨ (r = some (.int 1) ∧ (¬ (0 : Int32) = 0))) ∧ (True) := hw
            obtain ⟨⟨rfl, hz2_24⟩ | ⟨rfl, hz2_24⟩, hw_23⟩ := hw
            · have hP : va_P (dC, dI) vwCl (mw g h0 b (va_up i 0 x0_22) a) _ := hP
              have hD : va_D _ (mw g h0 b (va_up i 0 x0_22) a) := hD
              refine W.eq (g2 := F0 m 38 ls [.int 0]) rfl ?_
              refine lv_if_ne (tgt := 43) hx hb dX10_plan_38 (by decide) (fun c_25 => absurd c_25 (by decide)) (fun _ => ?_)
              refine lv_iconst (v := 0) hx hb dX10_plan_41 (by decide) ?_
              exact M_i hx hb hr hlocks (x0_22, (i 46), (a 4), (a 5), (a 6), (a 7), (a 14), (a 15), (a 47), (a 48), (a 49), (a 50)) hP hD hK hS ⟨⟨_, rfl⟩, hkp⟩ (by first | exact Nat.le_of_ble_eq_true rfl | (simp only [rm_X10_plan]; omega)) (by first | exact Nat.le_of_ble_eq_true rfl | (simp only [rm_X10_plan]; omega)) dX10_plan_42
            · have hP : va_P (dC, dI) vwCl (mw g h0 b (va_up i 0 x0_22) a) _ := hP
              have hD : va_D _ (mw g h0 b (va_up i 0 x0_22) a) := hD
              refine W.eq (g2 := F0 m 38 ls [.int 1]) rfl ?_
              exact absurd rfl hz2_24
          · have nc_21 := nlt_i c_21
            refine lv_iconst (v := 1) hx hb dX10_plan_29 (by decide) ?_
            refine lv_goto (tgt := 34) hx hb dX10_plan_30 (by decide) ?_
            refine lv_iconst (v := 2) hx hb dX10_plan_34 (by decide) ?_
            refine M_V ⟨hx, hb, hml, hown, hts⟩ (m_X10_right l dC dI sa g h0 b (va_up i 0 x0_1) a (1 : Int32) (2 : Int32) _ (by decide)) (cwV 2 hts gX10_plan_X10_right rfl rfl rfl (by decide +kernel) ⟨(by first | exact Nat.le_of_ble_eq_true rfl | (simp only [rm_X10_right, rm_X10_plan]; omega)), (by first | exact Nat.le_of_ble_eq_true rfl | (simp only [rm_X10_right, rm_X10_plan]; omega))⟩) hP hD hK hS hA hev rfl rfl rfl rfl hl.1 rfl (Nat.le_of_ble_eq_true rfl) dX10_plan_35 ⟨(by first | exact Nat.le_of_ble_eq_true rfl | (simp only [rm_X10_plan]; omega)), (by first | exact Nat.le_of_ble_eq_true rfl | (simp only [rm_X10_plan]; omega))⟩ (fun r u H locs hw hP hD hS => ?_)
            obtain ⟨x0_26, rfl⟩ : ∃ z, z = u := ⟨_, rfl⟩
            have hw : ((r = some (.int 0) ∧ (True)) ∨ (r = some (.int 1) ∧ (¬ (1 : Int32) = 0))) ∧ (True) := hw
            obtain ⟨⟨rfl, hz2_28⟩ | ⟨rfl, hz2_28⟩, hw_27⟩ := hw
            · have hP : va_P (dC, dI) vwCl (mw g h0 b (va_up i 0 x0_26) a) _ := hP
              have hD : va_D _ (mw g h0 b (va_up i 0 x0_26) a) := hD
              refine W.eq (g2 := F0 m 38 ls [.int 0]) rfl ?_
              refine lv_if_ne (tgt := 43) hx hb dX10_plan_38 (by decide) (fun c_29 => absurd c_29 (by decide)) (fun _ => ?_)
              refine lv_iconst (v := 0) hx hb dX10_plan_41 (by decide) ?_
              exact M_i hx hb hr hlocks (x0_26, (i 46), (a 4), (a 5), (a 6), (a 7), (a 14), (a 15), (a 47), (a 48), (a 49), (a 50)) hP hD hK hS ⟨⟨_, rfl⟩, hkp⟩ (by first | exact Nat.le_of_ble_eq_true rfl | (simp only [rm_X10_plan]; omega)) (by first | exact Nat.le_of_ble_eq_true rfl | (simp only [rm_X10_plan]; omega)) dX10_plan_42
            · have hP : va_P (dC, dI) vwCl (mw g h0 b (va_up i 0 x0_26) a) _ := hP
              have hD : va_D _ (mw g h0 b (va_up i 0 x0_26) a) := hD
              refine W.eq (g2 := F0 m 38 ls [.int 1]) rfl ?_
              refine lv_if_ne (tgt := 43) hx hb dX10_plan_38 (by decide) (fun _ => ?_) (fun c_30 => absurd c_30 (by decide))
              refine lv_aload_n hx hb dX10_plan_43 rfl (lv_at hl 0 rfl) ?_
              refine lv_iconst (v := 0) hx hb dX10_plan_44 (by decide) ?_
              refine va_put (D := (dC, dI)) (ci := 10) (v := .int 0) (ty := .int) (C := RX10) (T := TX10) (N := 51) hx hb hts inw_X10_plan_10 tyX10 tyX10_ok nmX10 hown hK hP hD hS 0 rfl rfl 46 (by decide) (hts (.fieldLink RX10 346 "VatHouseModel" "kept" "I") (by decide +kernel)) (fun _ h9 => h9) rfl (by decide +kernel) rfl rfl (Nat.le_of_ble_eq_true rfl) dX10_plan_45 (fun H locs hP hD hS => ?_)
              have hP : va_P (dC, dI) vwCl (mw g h0 b (va_up (va_up i 0 x0_26) 46 (0 : Int32)) a) _ := hP
              have hD : va_D _ (mw g h0 b (va_up (va_up i 0 x0_26) 46 (0 : Int32)) a) := hD
              refine lv_aload_n hx hb dX10_plan_48 rfl (lv_at hl 0 rfl) ?_
              refine lv_iload_n hx hb dX10_plan_49 rfl (lv_at hl 1 rfl) ?_
              refine M_V ⟨hx, hb, hml, hown, hts⟩ (m_X10_isDry l dC dI sa g h0 b (va_up (va_up i 0 x0_26) 46 (0 : Int32)) a ck _ hc30) (cwV 1 hts gX10_plan_X10_isDry rfl rfl rfl (by decide +kernel) ⟨(by first | exact Nat.le_of_ble_eq_true rfl | (simp only [rm_X10_isDry, rm_X10_plan]; omega)), (by first | exact Nat.le_of_ble_eq_true rfl | (simp only [rm_X10_isDry, rm_X10_plan]; omega))⟩) hP hD hK hS hA hev rfl rfl rfl rfl hl.1 rfl (Nat.le_of_ble_eq_true rfl) dX10_plan_50 ⟨(by first | exact Nat.le_of_ble_eq_true rfl | (simp only [rm_X10_plan]; omega)), (by first | exact Nat.le_of_ble_eq_true rfl | (simp only [rm_X10_plan]; omega))⟩ (fun r u H locs hw hP hD hS => ?_)
              have hw : (∃ z : Int32, r = some (.int z) ∧ (z = 0 ∨ z = 1)) ∧ (True) := hw
              obtain ⟨⟨z_32, rfl, hz_z_32⟩, hw_31⟩ := hw
              have hP : va_P (dC, dI) vwCl (mw g h0 b (va_up (va_up i 0 x0_26) 46 (0 : Int32)) a) _ := hP
              have hD : va_D _ (mw g h0 b (va_up (va_up i 0 x0_26) 46 (0 : Int32)) a) := hD
              refine W.eq (g2 := F0 m 53 ls [.int z_32]) rfl ?_
              refine lv_if_eq (tgt := 58) hx hb dX10_plan_53 (by decide) (fun c_33 => ?_) (fun c_33 => ?_)
              · have nc_33 := eq_i c_33
                have lc_33 : (0 : Int32).toInt = 0 := by decide
                refine lv_iconst (v := 0) hx hb dX10_plan_58 (by decide) ?_
                refine lv_istore (lv' := [(5, .int 0), (0, .ref h0), (1, .int ck), (2, .int lw), (3, .int hg), (4, .int mo)]) hx hb dX10_plan_59 hl (by decide) rfl (fun ls hl => ?_)
                have lp : ∀ (n : Nat) (ii : Int32) (l4 : Nat → Int32) (l5 : Nat → Int32) (l6 : Nat → Int32) (l7 : Nat → Int32) (l14 : Nat → Int32) (l15 : Nat → Int32) (l47 : Nat → Int32) (l48 : Nat → Int32) (l49 : Nat → Int32) (l50 : Nat → Int32) (H : Heap) (locs : List Loc) (ls : Array Slot), (∃ q : Nat, ii = nI q ∧ q ≤ 4 ∧ 4 < q + n) → va_P (dC, dI) vwCl (mw g h0 b (va_up (va_up i 0 x0_26) 46 (0 : Int32)) (va_up (va_up (va_up (va_up (va_up (va_up (va_up (va_up (va_up (va_up a 4 l4) 5 l5) 6 l6) 7 l7) 14 l14) 15 l15) 47 l47) 48 l48) 49 l49) 50 l50)) H → va_D (va_A (mw g h0 b i a) s.heap.size) (mw g h0 b (va_up (va_up i 0 x0_26) 46 (0 : Int32)) (va_up (va_up (va_up (va_up (va_up (va_up (va_up (va_up (va_up (va_up a 4 l4) 5 l5) 6 l6) 7 l7) 14 l14) 15 l15) 47 l47) 48 l48) 49 l49) 50 l50)) → va_S (va_A (mw g h0 b i a) s.heap.size) s.heap H locs → lv_has ls 6 [(5, .int ii), (0, .ref h0), (1, .int ck), (2, .int lw), (3, .int hg), (4, .int mo)] → W p l e (rm_X10_plan ) s m [.ref h0, .int ck, .int lw, .int hg, .int mo].toArray below meth c H locs 0 0 (MQ below (Qg (fun (r : Option Value) (u : Int32 × Int32 × (Nat → Int32) × (Nat → Int32) × (Nat → Int32) × (Nat → Int32) × (Nat → Int32) × (Nat → Int32) × (Nat → Int32) × (Nat → Int32) × (Nat → Int32) × (Nat → Int32)) => match u with | (x0, x46, y4, y5, y6, y7, y14, y15, y47, y48, y49, y50) => (∃ z : Int32, r = some (.int z)) ∧ (x46.toInt ≤ 3)) (fun u t => QW dC dI (va_A (mw g h0 b i a) s.heap.size) ((fun (u : Int32 × Int32 × (Nat → Int32) × (Nat → Int32) × (Nat → Int32) × (Nat → Int32) × (Nat → Int32) × (Nat → Int32) × (Nat → Int32) × (Nat → Int32) × (Nat → Int32) × (Nat → Int32)) => match u with | (x0, x46, y4, y5, y6, y7, y14, y15, y47, y48, y49, y50) => mw g h0 b (va_up (va_up i 0 x0) 46 x46) (va_up (va_up (va_up (va_up (va_up (va_up (va_up (va_up (va_up (va_up a 4 y4) 5 y5) 6 y6) 7 y7) 14 y14) 15 y15) 47 y47) 48 y48) 49 y49) 50 y50)) u) [] t) (va_A (mw g h0 b i a) s.heap.size)) [.ref h0, .int ck, .int lw, .int hg, .int mo].toArray s 0 0 (va_A (mw g h0 b i a) s.heap.size)) (F0 m 61 ls []) := by
                  intro n
                  induction n with
                  | zero => intro ii l4 l5 l6 l7 l14 l15 l47 l48 l49 l50 H locs ls hm  hP hD hS hl; exact absurd hm (by rintro ⟨q, -, h1, h2⟩; omega)
                  | succ n ih =>
                    intro ii l4 l5 l6 l7 l14 l15 l47 l48 l49 l50 H locs ls hm  hP hD hS hl
                    refine lv_iload hx hb dX10_plan_61 (lv_at hl 0 rfl) ?_
                    refine lv_iload hx hb dX10_plan_63 (lv_at hl 5 rfl) ?_
                    refine lv_icmp_gt (tgt := 99) hx hb dX10_plan_65 (by decide) (fun c_34 => ?_) (fun c_34 => ?_)
                    · have nc_34 := lt_i c_34
                      refine lv_iconst (v := (-1)) hx hb dX10_plan_99 (by decide) ?_
                      exact M_i hx hb hr hlocks (x0_26, (0 : Int32), l4, l5, l6, l7, l14, l15, l47, l48, l49, l50) hP hD hK hS ⟨⟨_, rfl⟩, (by decide)⟩ (by first | exact Nat.le_of_ble_eq_true rfl | (simp only [rm_X10_plan]; omega)) (by first | exact Nat.le_of_ble_eq_true rfl | (simp only [rm_X10_plan]; omega)) dX10_plan_100
                    · have nc_34 := nlt_i c_34
                      refine lv_aload_n hx hb dX10_plan_68 rfl (lv_at hl 1 rfl) ?_
                      refine lv_iload_n hx hb dX10_plan_69 rfl (lv_at hl 2 rfl) ?_
                      refine lv_iconst (v := 0) hx hb dX10_plan_70 (by decide) ?_
                      refine lv_iload hx hb dX10_plan_71 (lv_at hl 0 rfl) ?_
                      refine lv_iload_n hx hb dX10_plan_73 rfl (lv_at hl 3 rfl) ?_
                      refine lv_iload_n hx hb dX10_plan_74 rfl (lv_at hl 4 rfl) ?_
                      obtain ⟨q, hq1, hq2⟩ := pl_q hm c_34 (by omega)
                      refine M_V ⟨hx, hb, hml, hown, hts⟩ (X10_leads_all l dC dI sa g h0 b q 0 (va_up (va_up i 0 x0_26) 46 (0 : Int32)) (va_up (va_up (va_up (va_up (va_up (va_up (va_up (va_up (va_up (va_up a 4 l4) 5 l5) 6 l6) 7 l7) 14 l14) 15 l15) 47 l47) 48 l48) 49 l49) 50 l50) ck (0 : Int32) ii lw hg _ nI_0.symm (by rw [hq1]; exact congrArg nI (by omega)) (by omega) hc30 hwt) (cwV 5 hts gX10_plan_X10_leads rfl rfl rfl (by decide +kernel) ⟨(by first | exact Nat.le_of_ble_eq_true rfl | (simp only [rm_X10_leads, rm_X10_plan]; omega)), (by first | exact Nat.le_of_ble_eq_true rfl | (simp only [rm_X10_leads, rm_X10_plan]; omega))⟩) hP hD hK hS hA hev rfl rfl rfl rfl hl.1 rfl (Nat.le_of_ble_eq_true rfl) dX10_plan_75 ⟨(by first | exact Nat.le_of_ble_eq_true rfl | (simp only [rm_X10_plan]; omega)), (by first | exact Nat.le_of_ble_eq_true rfl | (simp only [rm_X10_plan]; omega))⟩ (fun r u H locs hw hP hD hS => ?_)
                      obtain ⟨y4_35, y5_36, y6_37, y7_38, y14_39, y15_40, y47_41, y48_42, y49_43, y50_44⟩ := u
                      have hw : (∃ z : Int32, r = some (.int z) ∧ (z = 0 ∨ z = 1)) ∧ (True) := hw
                      obtain ⟨⟨z_46, rfl, hz_z_46⟩, hw_45⟩ := hw
                      have hP : va_P (dC, dI) vwCl (mw g h0 b (va_up (va_up i 0 x0_26) 46 (0 : Int32)) (va_up (va_up (va_up (va_up (va_up (va_up (va_up (va_up (va_up (va_up a 4 y4_35) 5 y5_36) 6 y6_37) 7 y7_38) 14 y14_39) 15 y15_40) 47 y47_41) 48 y48_42) 49 y49_43) 50 y50_44)) _ := hP
                      have hD : va_D _ (mw g h0 b (va_up (va_up i 0 x0_26) 46 (0 : Int32)) (va_up (va_up (va_up (va_up (va_up (va_up (va_up (va_up (va_up (va_up a 4 y4_35) 5 y5_36) 6 y6_37) 7 y7_38) 14 y14_39) 15 y15_40) 47 y47_41) 48 y48_42) 49 y49_43) 50 y50_44)) := hD
                      refine W.eq (g2 := F0 m 78 ls [.int z_46]) rfl ?_
                      refine lv_if_ne (tgt := 84) hx hb dX10_plan_78 (by decide) (fun c_47 => ?_) (fun c_47 => ?_)
                      · have nc_47 := ne_i c_47
                        have lc_47 : (0 : Int32).toInt = 0 := by decide
                        refine lv_aload_n hx hb dX10_plan_84 rfl (lv_at hl 1 rfl) ?_
                        refine lv_iload hx hb dX10_plan_85 (lv_at hl 0 rfl) ?_
                        refine va_put (D := (dC, dI)) (ci := 10) (v := .int ii) (ty := .int) (C := RX10) (T := TX10) (N := 51) hx hb hts inw_X10_plan_10 tyX10 tyX10_ok nmX10 hown hK hP hD hS 0 rfl rfl 46 (by decide) (hts (.fieldLink RX10 346 "VatHouseModel" "kept" "I") (by decide +kernel)) (fun _ h9 => h9) rfl (by decide +kernel) rfl rfl (Nat.le_of_ble_eq_true rfl) dX10_plan_87 (fun H locs hP hD hS => ?_)
                        have hP : va_P (dC, dI) vwCl (mw g h0 b (va_up (va_up i 0 x0_26) 46 ii) (va_up (va_up (va_up (va_up (va_up (va_up (va_up (va_up (va_up (va_up a 4 y4_35) 5 y5_36) 6 y6_37) 7 y7_38) 14 y14_39) 15 y15_40) 47 y47_41) 48 y48_42) 49 y49_43) 50 y50_44)) _ := hP
                        have hD : va_D _ (mw g h0 b (va_up (va_up i 0 x0_26) 46 ii) (va_up (va_up (va_up (va_up (va_up (va_up (va_up (va_up (va_up (va_up a 4 y4_35) 5 y5_36) 6 y6_37) 7 y7_38) 14 y14_39) 15 y15_40) 47 y47_41) 48 y48_42) 49 y49_43) 50 y50_44)) := hD
                        refine lv_iload hx hb dX10_plan_90 (lv_at hl 0 rfl) ?_
                        exact M_i hx hb hr hlocks (x0_26, ii, y4_35, y5_36, y6_37, y7_38, y14_39, y15_40, y47_41, y48_42, y49_43, y50_44) hP hD hK hS ⟨⟨_, rfl⟩, (by rw [hq1, nI_toInt (by omega)]; omega)⟩ (by first | exact Nat.le_of_ble_eq_true rfl | (simp only [rm_X10_plan]; omega)) (by first | exact Nat.le_of_ble_eq_true rfl | (simp only [rm_X10_plan]; omega)) dX10_plan_92
                      · have nc_47 := eq_i c_47
                        have lc_47 : (0 : Int32).toInt = 0 := by decide
                        refine lv_goto (tgt := 93) hx hb dX10_plan_81 (by decide) ?_
                        refine lv_iinc (v := (ii + 1)) (lv' := [(5, .int (ii + 1)), (0, .ref h0), (1, .int ck), (2, .int lw), (3, .int hg), (4, .int mo)]) hx hb dX10_plan_93 hl (k := 0) rfl rfl (by decide) rfl (fun ls hl => ?_)
                        refine lv_goto (tgt := 61) hx hb dX10_plan_96 (by decide) ?_
                        exact ih (ii + 1) y4_35 y5_36 y6_37 y7_38 y14_39 y15_40 y47_41 y48_42 y49_43 y50_44 _ _ _ (pl_nx hm c_34 (by omega))  hP hD hS (lv_sub hl [0, 1, 2, 3, 4, 5] rfl)
                exact lp 5 (0 : Int32) (a 4) (a 5) (a 6) (a 7) (a 14) (a 15) (a 47) (a 48) (a 49) (a 50) _ _ _ (⟨0, nI_0.symm, by omega, by omega⟩)  hP hD hS (lv_sub hl [0, 1, 2, 3, 4, 5] rfl)
              · have nc_33 := ne_i c_33
                have lc_33 : (0 : Int32).toInt = 0 := by decide
                refine lv_iconst (v := (-1)) hx hb dX10_plan_56 (by decide) ?_
                exact M_i hx hb hr hlocks (x0_26, (0 : Int32), (a 4), (a 5), (a 6), (a 7), (a 14), (a 15), (a 47), (a 48), (a 49), (a 50)) hP hD hK hS ⟨⟨_, rfl⟩, (by decide)⟩ (by first | exact Nat.le_of_ble_eq_true rfl | (simp only [rm_X10_plan]; omega)) (by first | exact Nat.le_of_ble_eq_true rfl | (simp only [rm_X10_plan]; omega)) dX10_plan_57

abbrev rm_X10_counts : Room := { frames := 0, cells := 0, slots := 0, locals := 0 }
theorem inw_X10_counts_10 : ∀ w ∈ wsX100, w ∈ wsX10_counts := by decide +kernel
set_option maxHeartbeats 1000000 in
set_option maxRecDepth 100000 in
theorem m_X10_counts (l : Launch) (dC : Nat → ClassId) (dI : Nat → Nat → Nat) (sa : Nat → Nat) (g : Nat → Nat) (h0 : Nat) (b : Nat → Nat) (i : Nat → Int32) (a : Nat → Nat → Int32) (sz : Nat) (hL : (i 40).toInt ≤ (i 39).toInt) : CT l dC dI sa yX10_counts wsX10_counts rm_X10_counts [.ref h0] (mw g h0 b i a) (tyM g) sz (fun (r : Option Value) (x40 : Int32) => ((r = some (.int 0) ∧ (x40.toInt = (i 40).toInt)) ∨ (r = some (.int 1) ∧ (x40.toInt = (i 40).toInt + 1 ∧ x40.toInt ≤ (i 39).toInt))) ∧ (True)) (fun (x40 : Int32) => mw g h0 b (va_up i 40 x40) a) (fun _ => []) 0 0 := by
  refine CT.start (cc := cX10_counts) (maxL := 1) (ret := (some .boolean)) (by decide) rfl (Nat.le_of_ble_eq_true rfl) ?_
  intro p e s m below meth c ls hst hP hK hD hev hS hl
  obtain ⟨hx, hb, hr, hml, hts, hown, hlocks, hin⟩ := hst
  have hown : s.vm.findClass RX10 = some m.cls := hown
  have hA : ∀ q : Nat, s.heap.size ≤ q → va_A (mw g h0 b i a) s.heap.size q := fun _ h => Or.inr h
  have hl : lv_has ls 1 [(0, .ref h0)] := hl
  refine lv_aload_n hx hb dX10_counts_0 rfl (lv_at hl 0 rfl) ?_
  refine va_get (D := (dC, dI)) (ci := 10) (v := .int (i 40)) (C := RX10) (T := TX10) (N := 51) hx hb hts inw_X10_counts_10 hown hK hP 0 rfl rfl 40 (by decide) (hts (.fieldLink RX10 287 "VatHouseModel" "counted" "I") (by decide +kernel)) (fun _ h9 => h9) rfl dX10_counts_1 ?_
  refine lv_aload_n hx hb dX10_counts_4 rfl (lv_at hl 0 rfl) ?_
  refine va_get (D := (dC, dI)) (ci := 10) (v := .int (i 39)) (C := RX10) (T := TX10) (N := 51) hx hb hts inw_X10_counts_10 hown hK hP 0 rfl rfl 39 (by decide) (hts (.fieldLink RX10 290 "VatHouseModel" "limit" "I") (by decide +kernel)) (fun _ h9 => h9) rfl dX10_counts_5 ?_
  refine lv_icmp_ne (tgt := 13) hx hb dX10_counts_8 (by decide) (fun c_1 => ?_) (fun c_1 => ?_)
  · have nc_1 := ne_i c_1
    refine lv_aload_n hx hb dX10_counts_13 rfl (lv_at hl 0 rfl) ?_
    refine lv_dup hx hb dX10_counts_14 rfl ?_
    refine va_get (D := (dC, dI)) (ci := 10) (v := .int (i 40)) (C := RX10) (T := TX10) (N := 51) hx hb hts inw_X10_counts_10 hown hK hP 0 rfl rfl 40 (by decide) (hts (.fieldLink RX10 287 "VatHouseModel" "counted" "I") (by decide +kernel)) (fun _ h9 => h9) rfl dX10_counts_15 ?_
    refine lv_iconst (v := 1) hx hb dX10_counts_18 (by decide) ?_
    refine lv_iadd hx hb dX10_counts_19 ?_
    refine lv_topi (fun z_2 ez_2 => ?_)
    refine va_put (D := (dC, dI)) (ci := 10) (v := .int z_2) (ty := .int) (C := RX10) (T := TX10) (N := 51) hx hb hts inw_X10_counts_10 tyX10 tyX10_ok nmX10 hown hK hP hD hS 0 rfl rfl 40 (by decide) (hts (.fieldLink RX10 287 "VatHouseModel" "counted" "I") (by decide +kernel)) (fun _ h9 => h9) rfl (by decide +kernel) rfl rfl (Nat.le_of_ble_eq_true rfl) dX10_counts_20 (fun H locs hP hD hS => ?_)
    have hP : va_P (dC, dI) vwCl (mw g h0 b (va_up i 40 z_2) a) _ := hP
    have hD : va_D _ (mw g h0 b (va_up i 40 z_2) a) := hD
    refine lv_iconst (v := 1) hx hb dX10_counts_23 (by decide) ?_
    exact M_z hx hb hr rfl hlocks (z_2) hP hD hK hS ⟨Or.inr ⟨rfl, ⟨by rw [ez_2]; exact inc_toInt (b := i 39) (Int32.lt_iff_toInt_lt.mpr (by omega)), by rw [ez_2, inc_toInt (b := i 39) (Int32.lt_iff_toInt_lt.mpr (by omega : (i 40).toInt < (i 39).toInt))]; omega⟩⟩, trivial⟩ (Nat.le_of_ble_eq_true rfl) (Nat.le_of_ble_eq_true rfl) dX10_counts_24
  · have nc_1 := eq_i c_1
    refine lv_iconst (v := 0) hx hb dX10_counts_11 (by decide) ?_
    exact M_z hx hb hr rfl hlocks ((i 40)) hP hD hK hS ⟨Or.inl ⟨rfl, rfl⟩, trivial⟩ (Nat.le_of_ble_eq_true rfl) (Nat.le_of_ble_eq_true rfl) dX10_counts_12

abbrev rm_X10_rested : Room := { frames := 1, cells := 0, slots := 0, locals := 21 }
theorem inw_X10_rested_10 : ∀ w ∈ wsX100, w ∈ wsX10_rested := by decide +kernel
set_option maxHeartbeats 1000000 in
set_option maxRecDepth 100000 in
theorem m_X10_rested (l : Launch) (dC : Nat → ClassId) (dI : Nat → Nat → Nat) (sa : Nat → Nat) (g : Nat → Nat) (h0 : Nat) (b : Nat → Nat) (i : Nat → Int32) (a : Nat → Nat → Int32) (nn : Int32) (sz : Nat) (hL : (i 40).toInt ≤ (i 39).toInt) : CT l dC dI sa yX10_rested wsX10_rested rm_X10_rested [.ref h0, .int nn] (mw g h0 b i a) (tyM g) sz (fun (r : Option Value) (u : Int32 × Int32 × Int32 × (Nat → Int32) × (Nat → Int32) × (Nat → Int32) × (Nat → Int32) × (Nat → Int32)) => match u with | (x1, x40, x43, y5, y6, y7, y10, y11) => (∃ z : Int32, r = some (.int z)) ∧ ((i 40).toInt ≤ x40.toInt ∧ x40.toInt ≤ (i 39).toInt)) (fun (u : Int32 × Int32 × Int32 × (Nat → Int32) × (Nat → Int32) × (Nat → Int32) × (Nat → Int32) × (Nat → Int32)) => match u with | (x1, x40, x43, y5, y6, y7, y10, y11) => mw g h0 b (va_up (va_up (va_up i 1 x1) 40 x40) 43 x43) (va_up (va_up (va_up (va_up (va_up a 5 y5) 6 y6) 7 y7) 10 y10) 11 y11)) (fun _ => []) 0 0 := by
  refine CT.start (cc := cX10_rested) (maxL := 3) (ret := (some .int)) (by decide) rfl (Nat.le_of_ble_eq_true rfl) ?_
  intro p e s m below meth c ls hst hP hK hD hev hS hl
  obtain ⟨hx, hb, hr, hml, hts, hown, hlocks, hin⟩ := hst
  have hown : s.vm.findClass RX10 = some m.cls := hown
  have hA : ∀ q : Nat, s.heap.size ≤ q → va_A (mw g h0 b i a) s.heap.size q := fun _ h => Or.inr h
  have hl : lv_has ls 3 [(0, .ref h0), (1, .int nn)] := hl
  refine lv_iconst (v := 0) hx hb dX10_rested_0 (by decide) ?_
  refine lv_istore_n (lv' := [(2, .int 0), (0, .ref h0), (1, .int nn)]) hx hb dX10_rested_1 rfl hl (by decide) rfl (fun ls hl => ?_)
  have lp : ∀ (n : Nat) (ii : Int32) (l1 : Int32) (l40 : Int32) (l43 : Int32) (l5 : Nat → Int32) (l6 : Nat → Int32) (l7 : Nat → Int32) (l10 : Nat → Int32) (l11 : Nat → Int32) (H : Heap) (locs : List Loc) (ls : Array Slot), (((i 39).toInt - l40.toInt).toNat + 1 < n) → (l40.toInt ≤ (i 39).toInt) → ((i 40).toInt ≤ l40.toInt) → va_P (dC, dI) vwCl (mw g h0 b (va_up (va_up (va_up i 1 l1) 40 l40) 43 l43) (va_up (va_up (va_up (va_up (va_up a 5 l5) 6 l6) 7 l7) 10 l10) 11 l11)) H → va_D (va_A (mw g h0 b i a) s.heap.size) (mw g h0 b (va_up (va_up (va_up i 1 l1) 40 l40) 43 l43) (va_up (va_up (va_up (va_up (va_up a 5 l5) 6 l6) 7 l7) 10 l10) 11 l11)) → va_S (va_A (mw g h0 b i a) s.heap.size) s.heap H locs → lv_has ls 3 [(2, .int ii), (0, .ref h0), (1, .int nn)] → W p l e rm_X10_rested s m [.ref h0, .int nn].toArray below meth c H locs 0 0 (MQ below (Qg (fun (r : Option Value) (u : Int32 × Int32 × Int32 × (Nat → Int32) × (Nat → Int32) × (Nat → Int32) × (Nat → Int32) × (Nat → Int32)) => match u with | (x1, x40, x43, y5, y6, y7, y10, y11) => (∃ z : Int32, r = some (.int z)) ∧ ((i 40).toInt ≤ x40.toInt ∧ x40.toInt ≤ (i 39).toInt)) (fun u t => QW dC dI (va_A (mw g h0 b i a) s.heap.size) ((fun (u : Int32 × Int32 × Int32 × (Nat → Int32) × (Nat → Int32) × (Nat → Int32) × (Nat → Int32) × (Nat → Int32)) => match u with | (x1, x40, x43, y5, y6, y7, y10, y11) => mw g h0 b (va_up (va_up (va_up i 1 x1) 40 x40) 43 x43) (va_up (va_up (va_up (va_up (va_up a 5 y5) 6 y6) 7 y7) 10 y10) 11 y11)) u) [] t) (va_A (mw g h0 b i a) s.heap.size)) [.ref h0, .int nn].toArray s 0 0 (va_A (mw g h0 b i a) s.heap.size)) (F0 m 2 ls []) := by
    intro n
    induction n with
    | zero => intro ii l1 l40 l43 l5 l6 l7 l10 l11 H locs ls hm hLl hge hP hD hS hl; exact absurd hm (by omega)
    | succ n ih =>
      intro ii l1 l40 l43 l5 l6 l7 l10 l11 H locs ls hm hLl hge hP hD hS hl
      refine lv_iload_n hx hb dX10_rested_2 rfl (lv_at hl 0 rfl) ?_
      refine lv_iload_n hx hb dX10_rested_3 rfl (lv_at hl 2 rfl) ?_
      refine lv_icmp_ge (tgt := 38) hx hb dX10_rested_4 (by decide) (fun c_1 => ?_) (fun c_1 => ?_)
      · have nc_1 := le_i c_1
        refine lv_iconst (v := 0) hx hb dX10_rested_38 (by decide) ?_
        exact M_i hx hb hr hlocks (l1, l40, l43, l5, l6, l7, l10, l11) hP hD hK hS ⟨⟨_, rfl⟩, ⟨by omega, by omega⟩⟩ (Nat.le_of_ble_eq_true rfl) (Nat.le_of_ble_eq_true rfl) dX10_rested_39
      · have nc_1 := nle_i c_1
        refine lv_aload_n hx hb dX10_rested_7 rfl (lv_at hl 1 rfl) ?_
        refine M_V ⟨hx, hb, hml, hown, hts⟩ (m_X10_counts l dC dI sa g h0 b (va_up (va_up (va_up i 1 l1) 40 l40) 43 l43) (va_up (va_up (va_up (va_up (va_up a 5 l5) 6 l6) 7 l7) 10 l10) 11 l11)  _ (show l40.toInt ≤ (i 39).toInt from by omega)) (cwV 0 hts gX10_rested_X10_counts rfl rfl rfl (by decide +kernel) ⟨Nat.le_of_ble_eq_true rfl, Nat.le_of_ble_eq_true rfl⟩) hP hD hK hS hA hev rfl rfl rfl rfl hl.1 rfl (Nat.le_of_ble_eq_true rfl) dX10_rested_8 ⟨(Nat.le_of_ble_eq_true rfl), (Nat.le_of_ble_eq_true rfl)⟩ (fun r u H locs hw hP hD hS => ?_)
        obtain ⟨x40_2, rfl⟩ : ∃ z, z = u := ⟨_, rfl⟩
        have hw : ((r = some (.int 0) ∧ (x40_2.toInt = l40.toInt)) ∨ (r = some (.int 1) ∧ (x40_2.toInt = l40.toInt + 1 ∧ x40_2.toInt ≤ (i 39).toInt))) ∧ (True) := hw
        obtain ⟨⟨rfl, hz2_4⟩ | ⟨rfl, hz2_4⟩, hw_3⟩ := hw
        · have hP : va_P (dC, dI) vwCl (mw g h0 b (va_up (va_up (va_up i 1 l1) 40 x40_2) 43 l43) (va_up (va_up (va_up (va_up (va_up a 5 l5) 6 l6) 7 l7) 10 l10) 11 l11)) _ := hP
          have hD : va_D _ (mw g h0 b (va_up (va_up (va_up i 1 l1) 40 x40_2) 43 l43) (va_up (va_up (va_up (va_up (va_up a 5 l5) 6 l6) 7 l7) 10 l10) 11 l11)) := hD
          refine W.eq (g2 := F0 m 11 ls [.int 0]) rfl ?_
          refine lv_if_ne (tgt := 18) hx hb dX10_rested_11 (by decide) (fun c_5 => absurd c_5 (by decide)) (fun _ => ?_)
          refine lv_sipush (v := 1000) hx hb dX10_rested_14 (by decide) ?_
          exact M_i hx hb hr hlocks (l1, x40_2, l43, l5, l6, l7, l10, l11) hP hD hK hS ⟨⟨_, rfl⟩, ⟨by omega, by omega⟩⟩ (Nat.le_of_ble_eq_true rfl) (Nat.le_of_ble_eq_true rfl) dX10_rested_17
        · have hP : va_P (dC, dI) vwCl (mw g h0 b (va_up (va_up (va_up i 1 l1) 40 x40_2) 43 l43) (va_up (va_up (va_up (va_up (va_up a 5 l5) 6 l6) 7 l7) 10 l10) 11 l11)) _ := hP
          have hD : va_D _ (mw g h0 b (va_up (va_up (va_up i 1 l1) 40 x40_2) 43 l43) (va_up (va_up (va_up (va_up (va_up a 5 l5) 6 l6) 7 l7) 10 l10) 11 l11)) := hD
          refine W.eq (g2 := F0 m 11 ls [.int 1]) rfl ?_
          refine lv_if_ne (tgt := 18) hx hb dX10_rested_11 (by decide) (fun _ => ?_) (fun c_6 => absurd c_6 (by decide))
          refine lv_aload_n hx hb dX10_rested_18 rfl (lv_at hl 1 rfl) ?_
          refine M_V ⟨hx, hb, hml, hown, hts⟩ (m_X10_hour l dC dI sa g h0 b (va_up (va_up (va_up i 1 l1) 40 x40_2) 43 l43) (va_up (va_up (va_up (va_up (va_up a 5 l5) 6 l6) 7 l7) 10 l10) 11 l11)  _ ) (cwV 0 hts gX10_rested_X10_hour rfl rfl rfl (by decide +kernel) ⟨Nat.le_of_ble_eq_true rfl, Nat.le_of_ble_eq_true rfl⟩) hP hD hK hS hA hev rfl rfl rfl rfl hl.1 rfl (Nat.le_of_ble_eq_true rfl) dX10_rested_19 ⟨(Nat.le_of_ble_eq_true rfl), (Nat.le_of_ble_eq_true rfl)⟩ (fun r u H locs hw hP hD hS => ?_)
          obtain ⟨x1_7, y5_8, y6_9, y7_10, y10_11, y11_12⟩ := u
          have hw : (r = none) ∧ (True) := hw
          obtain ⟨rfl, hw_13⟩ := hw
          have hP : va_P (dC, dI) vwCl (mw g h0 b (va_up (va_up (va_up i 1 x1_7) 40 x40_2) 43 l43) (va_up (va_up (va_up (va_up (va_up a 5 y5_8) 6 y6_9) 7 y7_10) 10 y10_11) 11 y11_12)) _ := hP
          have hD : va_D _ (mw g h0 b (va_up (va_up (va_up i 1 x1_7) 40 x40_2) 43 l43) (va_up (va_up (va_up (va_up (va_up a 5 y5_8) 6 y6_9) 7 y7_10) 10 y10_11) 11 y11_12)) := hD
          refine W.eq (g2 := F0 m 22 ls []) rfl ?_
          refine lv_aload_n hx hb dX10_rested_22 rfl (lv_at hl 1 rfl) ?_
          refine lv_dup hx hb dX10_rested_23 rfl ?_
          refine va_get (D := (dC, dI)) (ci := 10) (v := .int l43) (C := RX10) (T := TX10) (N := 51) hx hb hts inw_X10_rested_10 hown hK hP 0 rfl rfl 43 (by decide) (hts (.fieldLink RX10 316 "VatHouseModel" "ranHours" "I") (by decide +kernel)) (fun _ h9 => h9) rfl dX10_rested_24 ?_
          refine lv_iconst (v := 1) hx hb dX10_rested_27 (by decide) ?_
          refine lv_iadd hx hb dX10_rested_28 ?_
          refine lv_topi (fun z_14 ez_14 => ?_)
          refine va_put (D := (dC, dI)) (ci := 10) (v := .int z_14) (ty := .int) (C := RX10) (T := TX10) (N := 51) hx hb hts inw_X10_rested_10 tyX10 tyX10_ok nmX10 hown hK hP hD hS 0 rfl rfl 43 (by decide) (hts (.fieldLink RX10 316 "VatHouseModel" "ranHours" "I") (by decide +kernel)) (fun _ h9 => h9) rfl (by decide +kernel) rfl rfl (Nat.le_of_ble_eq_true rfl) dX10_rested_29 (fun H locs hP hD hS => ?_)
          have hP : va_P (dC, dI) vwCl (mw g h0 b (va_up (va_up (va_up i 1 x1_7) 40 x40_2) 43 z_14) (va_up (va_up (va_up (va_up (va_up a 5 y5_8) 6 y6_9) 7 y7_10) 10 y10_11) 11 y11_12)) _ := hP
          have hD : va_D _ (mw g h0 b (va_up (va_up (va_up i 1 x1_7) 40 x40_2) 43 z_14) (va_up (va_up (va_up (va_up (va_up a 5 y5_8) 6 y6_9) 7 y7_10) 10 y10_11) 11 y11_12)) := hD
          refine lv_iinc (v := (ii + 1)) (lv' := [(2, .int (ii + 1)), (0, .ref h0), (1, .int nn)]) hx hb dX10_rested_32 hl (k := 0) rfl rfl (by decide) rfl (fun ls hl => ?_)
          refine lv_goto (tgt := 2) hx hb dX10_rested_35 (by decide) ?_
          exact ih (ii + 1) x1_7 x40_2 z_14 y5_8 y6_9 y7_10 y10_11 y11_12 _ _ _ (by omega) (by omega) (by omega) hP hD hS (lv_sub hl [0, 1, 2] rfl)
  exact lp (((i 39).toInt - (i 40).toInt).toNat + 2) (0 : Int32) (i 1) (i 40) (i 43) (a 5) (a 6) (a 7) (a 10) (a 11) _ _ _ (by omega) (by omega) (by omega) hP hD hS (lv_sub hl [0, 1, 2] rfl)

abbrev rm_X10_dipped : Room := { frames := 2, cells := 0, slots := 0, locals := 49 }
theorem inw_X10_dipped_10 : ∀ w ∈ wsX100, w ∈ wsX10_dipped := by decide +kernel
set_option maxHeartbeats 1000000 in
set_option maxRecDepth 100000 in
theorem m_X10_dipped (l : Launch) (dC : Nat → ClassId) (dI : Nat → Nat → Nat) (sa : Nat → Nat) (g : Nat → Nat) (h0 : Nat) (b : Nat → Nat) (i : Nat → Int32) (a : Nat → Nat → Int32) (ck : Int32) (vv : Int32) (mm : Int32) (sz : Nat) (hc30 : vp_in ck 30) (hv6 : vp_in vv 6) (hwt : 1 ≤ ((a 13) ck.toNatClampNeg).toInt ∧ ((a 13) ck.toNatClampNeg).toInt ≤ 50) : CT l dC dI sa yX10_dipped wsX10_dipped rm_X10_dipped [.ref h0, .int ck, .int vv, .int mm] (mw g h0 b i a) (tyM g) sz (fun (r : Option Value) (u : Int32 × Int32 × (Nat → Int32) × (Nat → Int32) × (Nat → Int32) × (Nat → Int32) × (Nat → Int32) × (Nat → Int32) × (Nat → Int32) × (Nat → Int32) × (Nat → Int32) × (Nat → Int32)) => match u with | (x41, x42, y4, y5, y6, y7, y8, y9, y10, y14, y17, y18) => (∃ z : Int32, r = some (.int z)) ∧ (True)) (fun (u : Int32 × Int32 × (Nat → Int32) × (Nat → Int32) × (Nat → Int32) × (Nat → Int32) × (Nat → Int32) × (Nat → Int32) × (Nat → Int32) × (Nat → Int32) × (Nat → Int32) × (Nat → Int32)) => match u with | (x41, x42, y4, y5, y6, y7, y8, y9, y10, y14, y17, y18) => mw g h0 b (va_up (va_up i 41 x41) 42 x42) (va_up (va_up (va_up (va_up (va_up (va_up (va_up (va_up (va_up (va_up a 4 y4) 5 y5) 6 y6) 7 y7) 8 y8) 9 y9) 10 y10) 14 y14) 17 y17) 18 y18)) (fun _ => []) 0 0 := by
  refine CT.start (cc := cX10_dipped) (maxL := 4) (ret := (some .int)) (by decide) rfl (Nat.le_of_ble_eq_true rfl) ?_
  intro p e s m below meth c ls hst hP hK hD hev hS hl
  obtain ⟨hx, hb, hr, hml, hts, hown, hlocks, hin⟩ := hst
  have hown : s.vm.findClass RX10 = some m.cls := hown
  have hA : ∀ q : Nat, s.heap.size ≤ q → va_A (mw g h0 b i a) s.heap.size q := fun _ h => Or.inr h
  have hl : lv_has ls 4 [(0, .ref h0), (1, .int ck), (2, .int vv), (3, .int mm)] := hl
  refine lv_aload_n hx hb dX10_dipped_0 rfl (lv_at hl 0 rfl) ?_
  refine va_get (D := (dC, dI)) (ci := 10) (v := .ref (b 7)) (C := RX10) (T := TX10) (N := 51) hx hb hts inw_X10_dipped_10 hown hK hP 0 rfl rfl 7 (by decide) (hts (.fieldLink RX10 19 "VatHouseModel" "state" "[I") (by decide +kernel)) (fun _ h9 => h9) rfl dX10_dipped_1 ?_
  refine lv_iload_n hx hb dX10_dipped_4 rfl (lv_at hl 2 rfl) ?_
  refine va_iald hx hb hK hP 4 3 rfl rfl (by assumption) dX10_dipped_5 ?_
  refine lv_topi (fun z_1 ez_1 => ?_)
  have ez_1 : z_1 = (a 7) vv.toNatClampNeg := ez_1
  refine lv_iconst (v := 2) hx hb dX10_dipped_6 (by decide) ?_
  refine lv_icmp_ne (tgt := 12) hx hb dX10_dipped_7 (by decide) (fun c_2 => ?_) (fun c_2 => ?_)
  · have nc_2 := ne_i c_2
    have lc_2 : (2 : Int32).toInt = 2 := by decide
    refine lv_aload_n hx hb dX10_dipped_12 rfl (lv_at hl 0 rfl) ?_
    refine lv_iload_n hx hb dX10_dipped_13 rfl (lv_at hl 1 rfl) ?_
    refine lv_iload_n hx hb dX10_dipped_14 rfl (lv_at hl 2 rfl) ?_
    refine lv_iload_n hx hb dX10_dipped_15 rfl (lv_at hl 3 rfl) ?_
    refine M_V ⟨hx, hb, hml, hown, hts⟩ (m_X10_moves l dC dI sa g h0 b i a ck vv mm _ hc30 hv6 hwt) (cwV 3 hts gX10_dipped_X10_moves rfl rfl rfl (by decide +kernel) ⟨Nat.le_of_ble_eq_true rfl, Nat.le_of_ble_eq_true rfl⟩) hP hD hK hS hA hev rfl rfl rfl rfl hl.1 rfl (Nat.le_of_ble_eq_true rfl) dX10_dipped_16 ⟨(Nat.le_of_ble_eq_true rfl), (Nat.le_of_ble_eq_true rfl)⟩ (fun r u H locs hw hP hD hS => ?_)
    have hw : (∃ z : Int32, r = some (.int z)) ∧ (True) := hw
    obtain ⟨⟨z_4, rfl⟩, hw_3⟩ := hw
    have hP : va_P (dC, dI) vwCl (mw g h0 b i a) _ := hP
    have hD : va_D _ (mw g h0 b i a) := hD
    refine W.eq (g2 := F0 m 19 ls [.int z_4]) rfl ?_
    refine lv_if_ne (tgt := 24) hx hb dX10_dipped_19 (by decide) (fun c_5 => ?_) (fun c_5 => ?_)
    · have nc_5 := ne_i c_5
      have lc_5 : (0 : Int32).toInt = 0 := by decide
      refine lv_aload_n hx hb dX10_dipped_24 rfl (lv_at hl 0 rfl) ?_
      refine lv_dup hx hb dX10_dipped_25 rfl ?_
      refine va_get (D := (dC, dI)) (ci := 10) (v := .int (i 42)) (C := RX10) (T := TX10) (N := 51) hx hb hts inw_X10_dipped_10 hown hK hP 0 rfl rfl 42 (by decide) (hts (.fieldLink RX10 310 "VatHouseModel" "ranGrains" "I") (by decide +kernel)) (fun _ h9 => h9) rfl dX10_dipped_26 ?_
      refine lv_aload_n hx hb dX10_dipped_29 rfl (lv_at hl 0 rfl) ?_
      refine lv_iload_n hx hb dX10_dipped_30 rfl (lv_at hl 1 rfl) ?_
      refine lv_iload_n hx hb dX10_dipped_31 rfl (lv_at hl 2 rfl) ?_
      refine lv_iload_n hx hb dX10_dipped_32 rfl (lv_at hl 3 rfl) ?_
      refine M_V ⟨hx, hb, hml, hown, hts⟩ (m_X10_dips l dC dI sa g h0 b i a ck vv mm _ hc30 hv6 hwt) (cwV 3 hts gX10_dipped_X10_dips rfl rfl rfl (by decide +kernel) ⟨Nat.le_of_ble_eq_true rfl, Nat.le_of_ble_eq_true rfl⟩) hP hD hK hS hA hev rfl rfl rfl rfl hl.1 rfl (Nat.le_of_ble_eq_true rfl) dX10_dipped_33 ⟨(Nat.le_of_ble_eq_true rfl), (Nat.le_of_ble_eq_true rfl)⟩ (fun r u H locs hw hP hD hS => ?_)
      obtain ⟨y4_6, y5_7, y6_8, y7_9, y8_10, y9_11, y10_12, y14_13, y17_14, y18_15⟩ := u
      have hw : (∃ z : Int32, r = some (.int z)) ∧ (True) := hw
      obtain ⟨⟨z_17, rfl⟩, hw_16⟩ := hw
      have hP : va_P (dC, dI) vwCl (mw g h0 b i (va_up (va_up (va_up (va_up (va_up (va_up (va_up (va_up (va_up (va_up a 4 y4_6) 5 y5_7) 6 y6_8) 7 y7_9) 8 y8_10) 9 y9_11) 10 y10_12) 14 y14_13) 17 y17_14) 18 y18_15)) _ := hP
      have hD : va_D _ (mw g h0 b i (va_up (va_up (va_up (va_up (va_up (va_up (va_up (va_up (va_up (va_up a 4 y4_6) 5 y5_7) 6 y6_8) 7 y7_9) 8 y8_10) 9 y9_11) 10 y10_12) 14 y14_13) 17 y17_14) 18 y18_15)) := hD
      refine W.eq (g2 := F0 m 36 ls [.int z_17, .int (i 42), .ref h0]) rfl ?_
      refine lv_iadd hx hb dX10_dipped_36 ?_
      refine lv_topi (fun z_18 ez_18 => ?_)
      refine va_put (D := (dC, dI)) (ci := 10) (v := .int z_18) (ty := .int) (C := RX10) (T := TX10) (N := 51) hx hb hts inw_X10_dipped_10 tyX10 tyX10_ok nmX10 hown hK hP hD hS 0 rfl rfl 42 (by decide) (hts (.fieldLink RX10 310 "VatHouseModel" "ranGrains" "I") (by decide +kernel)) (fun _ h9 => h9) rfl (by decide +kernel) rfl rfl (Nat.le_of_ble_eq_true rfl) dX10_dipped_37 (fun H locs hP hD hS => ?_)
      have hP : va_P (dC, dI) vwCl (mw g h0 b (va_up i 42 z_18) (va_up (va_up (va_up (va_up (va_up (va_up (va_up (va_up (va_up (va_up a 4 y4_6) 5 y5_7) 6 y6_8) 7 y7_9) 8 y8_10) 9 y9_11) 10 y10_12) 14 y14_13) 17 y17_14) 18 y18_15)) _ := hP
      have hD : va_D _ (mw g h0 b (va_up i 42 z_18) (va_up (va_up (va_up (va_up (va_up (va_up (va_up (va_up (va_up (va_up a 4 y4_6) 5 y5_7) 6 y6_8) 7 y7_9) 8 y8_10) 9 y9_11) 10 y10_12) 14 y14_13) 17 y17_14) 18 y18_15)) := hD
      refine lv_aload_n hx hb dX10_dipped_40 rfl (lv_at hl 0 rfl) ?_
      refine lv_dup hx hb dX10_dipped_41 rfl ?_
      refine va_get (D := (dC, dI)) (ci := 10) (v := .int (i 41)) (C := RX10) (T := TX10) (N := 51) hx hb hts inw_X10_dipped_10 hown hK hP 0 rfl rfl 41 (by decide) (hts (.fieldLink RX10 313 "VatHouseModel" "ranDips" "I") (by decide +kernel)) (fun _ h9 => h9) rfl dX10_dipped_42 ?_
      refine lv_iconst (v := 1) hx hb dX10_dipped_45 (by decide) ?_
      refine lv_iadd hx hb dX10_dipped_46 ?_
      refine lv_topi (fun z_19 ez_19 => ?_)
      refine va_put (D := (dC, dI)) (ci := 10) (v := .int z_19) (ty := .int) (C := RX10) (T := TX10) (N := 51) hx hb hts inw_X10_dipped_10 tyX10 tyX10_ok nmX10 hown hK hP hD hS 0 rfl rfl 41 (by decide) (hts (.fieldLink RX10 313 "VatHouseModel" "ranDips" "I") (by decide +kernel)) (fun _ h9 => h9) rfl (by decide +kernel) rfl rfl (Nat.le_of_ble_eq_true rfl) dX10_dipped_47 (fun H locs hP hD hS => ?_)
      have hP : va_P (dC, dI) vwCl (mw g h0 b (va_up (va_up i 41 z_19) 42 z_18) (va_up (va_up (va_up (va_up (va_up (va_up (va_up (va_up (va_up (va_up a 4 y4_6) 5 y5_7) 6 y6_8) 7 y7_9) 8 y8_10) 9 y9_11) 10 y10_12) 14 y14_13) 17 y17_14) 18 y18_15)) _ := hP
      have hD : va_D _ (mw g h0 b (va_up (va_up i 41 z_19) 42 z_18) (va_up (va_up (va_up (va_up (va_up (va_up (va_up (va_up (va_up (va_up a 4 y4_6) 5 y5_7) 6 y6_8) 7 y7_9) 8 y8_10) 9 y9_11) 10 y10_12) 14 y14_13) 17 y17_14) 18 y18_15)) := hD
      refine lv_iconst (v := 0) hx hb dX10_dipped_50 (by decide) ?_
      exact M_i hx hb hr hlocks (z_19, z_18, y4_6, y5_7, y6_8, y7_9, y8_10, y9_11, y10_12, y14_13, y17_14, y18_15) hP hD hK hS ⟨⟨_, rfl⟩, trivial⟩ (Nat.le_of_ble_eq_true rfl) (Nat.le_of_ble_eq_true rfl) dX10_dipped_51
    · have nc_5 := eq_i c_5
      have lc_5 : (0 : Int32).toInt = 0 := by decide
      refine lv_iconst (v := 2) hx hb dX10_dipped_22 (by decide) ?_
      exact M_i hx hb hr hlocks ((i 41), (i 42), (a 4), (a 5), (a 6), (a 7), (a 8), (a 9), (a 10), (a 14), (a 17), (a 18)) hP hD hK hS ⟨⟨_, rfl⟩, trivial⟩ (Nat.le_of_ble_eq_true rfl) (Nat.le_of_ble_eq_true rfl) dX10_dipped_23
  · have nc_2 := eq_i c_2
    have lc_2 : (2 : Int32).toInt = 2 := by decide
    refine lv_iconst (v := 1) hx hb dX10_dipped_10 (by decide) ?_
    exact M_i hx hb hr hlocks ((i 41), (i 42), (a 4), (a 5), (a 6), (a 7), (a 8), (a 9), (a 10), (a 14), (a 17), (a 18)) hP hD hK hS ⟨⟨_, rfl⟩, trivial⟩ (Nat.le_of_ble_eq_true rfl) (Nat.le_of_ble_eq_true rfl) dX10_dipped_11

abbrev rm_X10_holds : Room := { frames := 1, cells := 0, slots := 0, locals := 21 }
theorem inw_X10_holds_10 : ∀ w ∈ wsX100, w ∈ wsX10_holds := by decide +kernel
set_option maxHeartbeats 1000000 in
set_option maxRecDepth 100000 in
theorem m_X10_holds (l : Launch) (dC : Nat → ClassId) (dI : Nat → Nat → Nat) (sa : Nat → Nat) (g : Nat → Nat) (h0 : Nat) (b : Nat → Nat) (i : Nat → Int32) (a : Nat → Nat → Int32) (kk : Int32) (ck : Int32) (sz : Nat) (hk : vp_in kk 2700) (ho : vp_in ((a 27) kk.toNatClampNeg) 6) (hc30 : vp_in ck 30) (hwt : 1 ≤ ((a 13) ck.toNatClampNeg).toInt ∧ ((a 13) ck.toNatClampNeg).toInt ≤ 50) : CT l dC dI sa yX10_holds wsX10_holds rm_X10_holds [.ref h0, .int kk, .int ck] (mw g h0 b i a) (tyM g) sz (fun (r : Option Value) (_ : Unit) => (∃ z : Int32, r = some (.int z) ∧ (z = 0 ∨ z = 1)) ∧ (True)) (fun (_ : Unit) => mw g h0 b i a) (fun _ => []) 0 0 := by
  refine CT.start (cc := cX10_holds) (maxL := 4) (ret := (some .boolean)) (by decide) rfl (Nat.le_of_ble_eq_true rfl) ?_
  intro p e s m below meth c ls hst hP hK hD hev hS hl
  obtain ⟨hx, hb, hr, hml, hts, hown, hlocks, hin⟩ := hst
  have hown : s.vm.findClass RX10 = some m.cls := hown
  have hA : ∀ q : Nat, s.heap.size ≤ q → va_A (mw g h0 b i a) s.heap.size q := fun _ h => Or.inr h
  have hl : lv_has ls 4 [(0, .ref h0), (1, .int kk), (2, .int ck)] := hl
  refine lv_aload_n hx hb dX10_holds_0 rfl (lv_at hl 0 rfl) ?_
  refine va_get (D := (dC, dI)) (ci := 10) (v := .ref (b 29)) (C := RX10) (T := TX10) (N := 51) hx hb hts inw_X10_holds_10 hown hK hP 0 rfl rfl 29 (by decide) (hts (.fieldLink RX10 69 "VatHouseModel" "look" "[I") (by decide +kernel)) (fun _ h9 => h9) rfl dX10_holds_1 ?_
  refine lv_iload_n hx hb dX10_holds_4 rfl (lv_at hl 1 rfl) ?_
  refine va_iald hx hb hK hP 19 18 rfl rfl (by assumption) dX10_holds_5 ?_
  refine lv_topi (fun z_1 ez_1 => ?_)
  have ez_1 : z_1 = (a 29) kk.toNatClampNeg := ez_1
  refine lv_bipush (v := 14) hx hb dX10_holds_6 (by decide) ?_
  refine lv_icmp_ne (tgt := 19) hx hb dX10_holds_8 (by decide) (fun c_2 => ?_) (fun c_2 => ?_)
  · have nc_2 := ne_i c_2
    have lc_2 : (14 : Int32).toInt = 14 := by decide
    refine lv_aload_n hx hb dX10_holds_19 rfl (lv_at hl 0 rfl) ?_
    refine va_get (D := (dC, dI)) (ci := 10) (v := .ref (b 29)) (C := RX10) (T := TX10) (N := 51) hx hb hts inw_X10_holds_10 hown hK hP 0 rfl rfl 29 (by decide) (hts (.fieldLink RX10 69 "VatHouseModel" "look" "[I") (by decide +kernel)) (fun _ h9 => h9) rfl dX10_holds_20 ?_
    refine lv_iload_n hx hb dX10_holds_23 rfl (lv_at hl 1 rfl) ?_
    refine va_iald hx hb hK hP 19 18 rfl rfl (by assumption) dX10_holds_24 ?_
    refine lv_topi (fun z_3 ez_3 => ?_)
    have ez_3 : z_3 = (a 29) kk.toNatClampNeg := ez_3
    refine lv_bipush (v := 15) hx hb dX10_holds_25 (by decide) ?_
    refine lv_icmp_ne (tgt := 39) hx hb dX10_holds_27 (by decide) (fun c_4 => ?_) (fun c_4 => ?_)
    · have nc_4 := ne_i c_4
      have lc_4 : (15 : Int32).toInt = 15 := by decide
      refine lv_aload_n hx hb dX10_holds_39 rfl (lv_at hl 0 rfl) ?_
      refine va_get (D := (dC, dI)) (ci := 10) (v := .ref (b 29)) (C := RX10) (T := TX10) (N := 51) hx hb hts inw_X10_holds_10 hown hK hP 0 rfl rfl 29 (by decide) (hts (.fieldLink RX10 69 "VatHouseModel" "look" "[I") (by decide +kernel)) (fun _ h9 => h9) rfl dX10_holds_40 ?_
      refine lv_iload_n hx hb dX10_holds_43 rfl (lv_at hl 1 rfl) ?_
      refine va_iald hx hb hK hP 19 18 rfl rfl (by assumption) dX10_holds_44 ?_
      refine lv_topi (fun z_5 ez_5 => ?_)
      have ez_5 : z_5 = (a 29) kk.toNatClampNeg := ez_5
      refine lv_bipush (v := 16) hx hb dX10_holds_45 (by decide) ?_
      refine lv_icmp_ne (tgt := 60) hx hb dX10_holds_47 (by decide) (fun c_6 => ?_) (fun c_6 => ?_)
      · have nc_6 := ne_i c_6
        have lc_6 : (16 : Int32).toInt = 16 := by decide
        refine lv_aload_n hx hb dX10_holds_60 rfl (lv_at hl 0 rfl) ?_
        refine va_get (D := (dC, dI)) (ci := 10) (v := .ref (b 29)) (C := RX10) (T := TX10) (N := 51) hx hb hts inw_X10_holds_10 hown hK hP 0 rfl rfl 29 (by decide) (hts (.fieldLink RX10 69 "VatHouseModel" "look" "[I") (by decide +kernel)) (fun _ h9 => h9) rfl dX10_holds_61 ?_
        refine lv_iload_n hx hb dX10_holds_64 rfl (lv_at hl 1 rfl) ?_
        refine va_iald hx hb hK hP 19 18 rfl rfl (by assumption) dX10_holds_65 ?_
        refine lv_topi (fun z_7 ez_7 => ?_)
        have ez_7 : z_7 = (a 29) kk.toNatClampNeg := ez_7
        refine lv_bipush (v := 17) hx hb dX10_holds_66 (by decide) ?_
        refine lv_icmp_ne (tgt := 85) hx hb dX10_holds_68 (by decide) (fun c_8 => ?_) (fun c_8 => ?_)
        · have nc_8 := ne_i c_8
          have lc_8 : (17 : Int32).toInt = 17 := by decide
          refine lv_aload_n hx hb dX10_holds_85 rfl (lv_at hl 0 rfl) ?_
          refine va_get (D := (dC, dI)) (ci := 10) (v := .ref (b 5)) (C := RX10) (T := TX10) (N := 51) hx hb hts inw_X10_holds_10 hown hK hP 0 rfl rfl 5 (by decide) (hts (.fieldLink RX10 13 "VatHouseModel" "food" "[I") (by decide +kernel)) (fun _ h9 => h9) rfl dX10_holds_86 ?_
          refine lv_aload_n hx hb dX10_holds_89 rfl (lv_at hl 0 rfl) ?_
          refine va_get (D := (dC, dI)) (ci := 10) (v := .ref (b 27)) (C := RX10) (T := TX10) (N := 51) hx hb hts inw_X10_holds_10 hown hK hP 0 rfl rfl 27 (by decide) (hts (.fieldLink RX10 63 "VatHouseModel" "one" "[I") (by decide +kernel)) (fun _ h9 => h9) rfl dX10_holds_90 ?_
          refine lv_iload_n hx hb dX10_holds_93 rfl (lv_at hl 1 rfl) ?_
          refine va_iald hx hb hK hP 17 16 rfl rfl (by assumption) dX10_holds_94 ?_
          refine lv_topi (fun z_9 ez_9 => ?_)
          have ez_9 : z_9 = (a 27) kk.toNatClampNeg := ez_9
          refine va_iald hx hb hK hP 2 1 rfl rfl (by rw [ez_9]; exact ho) dX10_holds_95 ?_
          refine lv_topi (fun z_10 ez_10 => ?_)
          have ez_10 : z_10 = (a 5) z_9.toNatClampNeg := ez_10
          refine lv_istore_n (lv' := [(3, .int z_10), (0, .ref h0), (1, .int kk), (2, .int ck)]) hx hb dX10_holds_96 rfl hl (by decide) rfl (fun ls hl => ?_)
          refine lv_aload_n hx hb dX10_holds_97 rfl (lv_at hl 1 rfl) ?_
          refine va_get (D := (dC, dI)) (ci := 10) (v := .ref (b 30)) (C := RX10) (T := TX10) (N := 51) hx hb hts inw_X10_holds_10 hown hK hP 0 rfl rfl 30 (by decide) (hts (.fieldLink RX10 72 "VatHouseModel" "sign" "[I") (by decide +kernel)) (fun _ h9 => h9) rfl dX10_holds_98 ?_
          refine lv_iload_n hx hb dX10_holds_101 rfl (lv_at hl 2 rfl) ?_
          refine va_iald hx hb hK hP 20 19 rfl rfl (by assumption) dX10_holds_102 ?_
          refine lv_topi (fun z_11 ez_11 => ?_)
          have ez_11 : z_11 = (a 30) kk.toNatClampNeg := ez_11
          refine lv_bipush (v := 60) hx hb dX10_holds_103 (by decide) ?_
          refine lv_icmp_ne (tgt := 126) hx hb dX10_holds_105 (by decide) (fun c_12 => ?_) (fun c_12 => ?_)
          · have nc_12 := ne_i c_12
            have lc_12 : (60 : Int32).toInt = 60 := by decide
            refine lv_iload_n hx hb dX10_holds_126 rfl (lv_at hl 0 rfl) ?_
            refine lv_aload_n hx hb dX10_holds_127 rfl (lv_at hl 1 rfl) ?_
            refine va_get (D := (dC, dI)) (ci := 10) (v := .ref (b 28)) (C := RX10) (T := TX10) (N := 51) hx hb hts inw_X10_holds_10 hown hK hP 0 rfl rfl 28 (by decide) (hts (.fieldLink RX10 66 "VatHouseModel" "two" "[I") (by decide +kernel)) (fun _ h9 => h9) rfl dX10_holds_128 ?_
            refine lv_iload_n hx hb dX10_holds_131 rfl (lv_at hl 2 rfl) ?_
            refine va_iald hx hb hK hP 18 17 rfl rfl (by assumption) dX10_holds_132 ?_
            refine lv_topi (fun z_13 ez_13 => ?_)
            have ez_13 : z_13 = (a 28) kk.toNatClampNeg := ez_13
            refine lv_icmp_ne (tgt := 140) hx hb dX10_holds_133 (by decide) (fun c_14 => ?_) (fun c_14 => ?_)
            · have nc_14 := ne_i c_14
              refine lv_iconst (v := 0) hx hb dX10_holds_140 (by decide) ?_
              exact M_z hx hb hr rfl hlocks () hP hD hK hS ⟨⟨_, rfl, Or.inl rfl⟩, trivial⟩ (Nat.le_of_ble_eq_true rfl) (Nat.le_of_ble_eq_true rfl) dX10_holds_141
            · have nc_14 := eq_i c_14
              refine lv_iconst (v := 1) hx hb dX10_holds_136 (by decide) ?_
              refine lv_goto (tgt := 141) hx hb dX10_holds_137 (by decide) ?_
              exact M_z hx hb hr rfl hlocks () hP hD hK hS ⟨⟨_, rfl, Or.inr rfl⟩, trivial⟩ (Nat.le_of_ble_eq_true rfl) (Nat.le_of_ble_eq_true rfl) dX10_holds_141
          · have nc_12 := eq_i c_12
            have lc_12 : (60 : Int32).toInt = 60 := by decide
            refine lv_iload_n hx hb dX10_holds_108 rfl (lv_at hl 0 rfl) ?_
            refine lv_aload_n hx hb dX10_holds_109 rfl (lv_at hl 1 rfl) ?_
            refine va_get (D := (dC, dI)) (ci := 10) (v := .ref (b 28)) (C := RX10) (T := TX10) (N := 51) hx hb hts inw_X10_holds_10 hown hK hP 0 rfl rfl 28 (by decide) (hts (.fieldLink RX10 66 "VatHouseModel" "two" "[I") (by decide +kernel)) (fun _ h9 => h9) rfl dX10_holds_110 ?_
            refine lv_iload_n hx hb dX10_holds_113 rfl (lv_at hl 2 rfl) ?_
            refine va_iald hx hb hK hP 18 17 rfl rfl (by assumption) dX10_holds_114 ?_
            refine lv_topi (fun z_15 ez_15 => ?_)
            have ez_15 : z_15 = (a 28) kk.toNatClampNeg := ez_15
            refine lv_icmp_ge (tgt := 122) hx hb dX10_holds_115 (by decide) (fun c_16 => ?_) (fun c_16 => ?_)
            · have nc_16 := le_i c_16
              refine lv_iconst (v := 0) hx hb dX10_holds_122 (by decide) ?_
              refine lv_goto (tgt := 141) hx hb dX10_holds_123 (by decide) ?_
              exact M_z hx hb hr rfl hlocks () hP hD hK hS ⟨⟨_, rfl, Or.inl rfl⟩, trivial⟩ (Nat.le_of_ble_eq_true rfl) (Nat.le_of_ble_eq_true rfl) dX10_holds_141
            · have nc_16 := nle_i c_16
              refine lv_iconst (v := 1) hx hb dX10_holds_118 (by decide) ?_
              refine lv_goto (tgt := 141) hx hb dX10_holds_119 (by decide) ?_
              exact M_z hx hb hr rfl hlocks () hP hD hK hS ⟨⟨_, rfl, Or.inr rfl⟩, trivial⟩ (Nat.le_of_ble_eq_true rfl) (Nat.le_of_ble_eq_true rfl) dX10_holds_141
        · have nc_8 := eq_i c_8
          have lc_8 : (17 : Int32).toInt = 17 := by decide
          refine lv_aload_n hx hb dX10_holds_71 rfl (lv_at hl 0 rfl) ?_
          refine va_get (D := (dC, dI)) (ci := 10) (v := .ref (b 4)) (C := RX10) (T := TX10) (N := 51) hx hb hts inw_X10_holds_10 hown hK hP 0 rfl rfl 4 (by decide) (hts (.fieldLink RX10 7 "VatHouseModel" "grains" "[I") (by decide +kernel)) (fun _ h9 => h9) rfl dX10_holds_72 ?_
          refine lv_aload_n hx hb dX10_holds_75 rfl (lv_at hl 0 rfl) ?_
          refine va_get (D := (dC, dI)) (ci := 10) (v := .ref (b 27)) (C := RX10) (T := TX10) (N := 51) hx hb hts inw_X10_holds_10 hown hK hP 0 rfl rfl 27 (by decide) (hts (.fieldLink RX10 63 "VatHouseModel" "one" "[I") (by decide +kernel)) (fun _ h9 => h9) rfl dX10_holds_76 ?_
          refine lv_iload_n hx hb dX10_holds_79 rfl (lv_at hl 1 rfl) ?_
          refine va_iald hx hb hK hP 17 16 rfl rfl (by assumption) dX10_holds_80 ?_
          refine lv_topi (fun z_17 ez_17 => ?_)
          have ez_17 : z_17 = (a 27) kk.toNatClampNeg := ez_17
          refine va_iald hx hb hK hP 1 0 rfl rfl (by rw [ez_17]; exact ho) dX10_holds_81 ?_
          refine lv_topi (fun z_18 ez_18 => ?_)
          have ez_18 : z_18 = (a 4) z_17.toNatClampNeg := ez_18
          refine lv_goto (tgt := 96) hx hb dX10_holds_82 (by decide) ?_
          refine lv_istore_n (lv' := [(3, .int z_18), (0, .ref h0), (1, .int kk), (2, .int ck)]) hx hb dX10_holds_96 rfl hl (by decide) rfl (fun ls hl => ?_)
          refine lv_aload_n hx hb dX10_holds_97 rfl (lv_at hl 1 rfl) ?_
          refine va_get (D := (dC, dI)) (ci := 10) (v := .ref (b 30)) (C := RX10) (T := TX10) (N := 51) hx hb hts inw_X10_holds_10 hown hK hP 0 rfl rfl 30 (by decide) (hts (.fieldLink RX10 72 "VatHouseModel" "sign" "[I") (by decide +kernel)) (fun _ h9 => h9) rfl dX10_holds_98 ?_
          refine lv_iload_n hx hb dX10_holds_101 rfl (lv_at hl 2 rfl) ?_
          refine va_iald hx hb hK hP 20 19 rfl rfl (by assumption) dX10_holds_102 ?_
          refine lv_topi (fun z_19 ez_19 => ?_)
          have ez_19 : z_19 = (a 30) kk.toNatClampNeg := ez_19
          refine lv_bipush (v := 60) hx hb dX10_holds_103 (by decide) ?_
          refine lv_icmp_ne (tgt := 126) hx hb dX10_holds_105 (by decide) (fun c_20 => ?_) (fun c_20 => ?_)
          · have nc_20 := ne_i c_20
            have lc_20 : (60 : Int32).toInt = 60 := by decide
            refine lv_iload_n hx hb dX10_holds_126 rfl (lv_at hl 0 rfl) ?_
            refine lv_aload_n hx hb dX10_holds_127 rfl (lv_at hl 1 rfl) ?_
            refine va_get (D := (dC, dI)) (ci := 10) (v := .ref (b 28)) (C := RX10) (T := TX10) (N := 51) hx hb hts inw_X10_holds_10 hown hK hP 0 rfl rfl 28 (by decide) (hts (.fieldLink RX10 66 "VatHouseModel" "two" "[I") (by decide +kernel)) (fun _ h9 => h9) rfl dX10_holds_128 ?_
            refine lv_iload_n hx hb dX10_holds_131 rfl (lv_at hl 2 rfl) ?_
            refine va_iald hx hb hK hP 18 17 rfl rfl (by assumption) dX10_holds_132 ?_
            refine lv_topi (fun z_21 ez_21 => ?_)
            have ez_21 : z_21 = (a 28) kk.toNatClampNeg := ez_21
            refine lv_icmp_ne (tgt := 140) hx hb dX10_holds_133 (by decide) (fun c_22 => ?_) (fun c_22 => ?_)
            · have nc_22 := ne_i c_22
              refine lv_iconst (v := 0) hx hb dX10_holds_140 (by decide) ?_
              exact M_z hx hb hr rfl hlocks () hP hD hK hS ⟨⟨_, rfl, Or.inl rfl⟩, trivial⟩ (Nat.le_of_ble_eq_true rfl) (Nat.le_of_ble_eq_true rfl) dX10_holds_141
            · have nc_22 := eq_i c_22
              refine lv_iconst (v := 1) hx hb dX10_holds_136 (by decide) ?_
              refine lv_goto (tgt := 141) hx hb dX10_holds_137 (by decide) ?_
              exact M_z hx hb hr rfl hlocks () hP hD hK hS ⟨⟨_, rfl, Or.inr rfl⟩, trivial⟩ (Nat.le_of_ble_eq_true rfl) (Nat.le_of_ble_eq_true rfl) dX10_holds_141
          · have nc_20 := eq_i c_20
            have lc_20 : (60 : Int32).toInt = 60 := by decide
            refine lv_iload_n hx hb dX10_holds_108 rfl (lv_at hl 0 rfl) ?_
            refine lv_aload_n hx hb dX10_holds_109 rfl (lv_at hl 1 rfl) ?_
            refine va_get (D := (dC, dI)) (ci := 10) (v := .ref (b 28)) (C := RX10) (T := TX10) (N := 51) hx hb hts inw_X10_holds_10 hown hK hP 0 rfl rfl 28 (by decide) (hts (.fieldLink RX10 66 "VatHouseModel" "two" "[I") (by decide +kernel)) (fun _ h9 => h9) rfl dX10_holds_110 ?_
            refine lv_iload_n hx hb dX10_holds_113 rfl (lv_at hl 2 rfl) ?_
            refine va_iald hx hb hK hP 18 17 rfl rfl (by assumption) dX10_holds_114 ?_
            refine lv_topi (fun z_23 ez_23 => ?_)
            have ez_23 : z_23 = (a 28) kk.toNatClampNeg := ez_23
            refine lv_icmp_ge (tgt := 122) hx hb dX10_holds_115 (by decide) (fun c_24 => ?_) (fun c_24 => ?_)
            · have nc_24 := le_i c_24
              refine lv_iconst (v := 0) hx hb dX10_holds_122 (by decide) ?_
              refine lv_goto (tgt := 141) hx hb dX10_holds_123 (by decide) ?_
              exact M_z hx hb hr rfl hlocks () hP hD hK hS ⟨⟨_, rfl, Or.inl rfl⟩, trivial⟩ (Nat.le_of_ble_eq_true rfl) (Nat.le_of_ble_eq_true rfl) dX10_holds_141
            · have nc_24 := nle_i c_24
              refine lv_iconst (v := 1) hx hb dX10_holds_118 (by decide) ?_
              refine lv_goto (tgt := 141) hx hb dX10_holds_119 (by decide) ?_
              exact M_z hx hb hr rfl hlocks () hP hD hK hS ⟨⟨_, rfl, Or.inr rfl⟩, trivial⟩ (Nat.le_of_ble_eq_true rfl) (Nat.le_of_ble_eq_true rfl) dX10_holds_141
      · have nc_6 := eq_i c_6
        have lc_6 : (16 : Int32).toInt = 16 := by decide
        refine lv_aload_n hx hb dX10_holds_50 rfl (lv_at hl 0 rfl) ?_
        refine va_get (D := (dC, dI)) (ci := 10) (v := .int (i 1)) (C := RX10) (T := TX10) (N := 51) hx hb hts inw_X10_holds_10 hown hK hP 0 rfl rfl 1 (by decide) (hts (.fieldLink RX10 131 "VatHouseModel" "hours" "I") (by decide +kernel)) (fun _ h9 => h9) rfl dX10_holds_51 ?_
        refine lv_bipush (v := 24) hx hb dX10_holds_54 (by decide) ?_
        refine lv_irem hx hb dX10_holds_56 (by decide) ?_
        refine lv_topi (fun z_25 ez_25 => ?_)
        refine lv_goto (tgt := 96) hx hb dX10_holds_57 (by decide) ?_
        refine lv_istore_n (lv' := [(3, .int z_25), (0, .ref h0), (1, .int kk), (2, .int ck)]) hx hb dX10_holds_96 rfl hl (by decide) rfl (fun ls hl => ?_)
        refine lv_aload_n hx hb dX10_holds_97 rfl (lv_at hl 1 rfl) ?_
        refine va_get (D := (dC, dI)) (ci := 10) (v := .ref (b 30)) (C := RX10) (T := TX10) (N := 51) hx hb hts inw_X10_holds_10 hown hK hP 0 rfl rfl 30 (by decide) (hts (.fieldLink RX10 72 "VatHouseModel" "sign" "[I") (by decide +kernel)) (fun _ h9 => h9) rfl dX10_holds_98 ?_
        refine lv_iload_n hx hb dX10_holds_101 rfl (lv_at hl 2 rfl) ?_
        refine va_iald hx hb hK hP 20 19 rfl rfl (by assumption) dX10_holds_102 ?_
        refine lv_topi (fun z_26 ez_26 => ?_)
        have ez_26 : z_26 = (a 30) kk.toNatClampNeg := ez_26
        refine lv_bipush (v := 60) hx hb dX10_holds_103 (by decide) ?_
        refine lv_icmp_ne (tgt := 126) hx hb dX10_holds_105 (by decide) (fun c_27 => ?_) (fun c_27 => ?_)
        · have nc_27 := ne_i c_27
          have lc_27 : (60 : Int32).toInt = 60 := by decide
          refine lv_iload_n hx hb dX10_holds_126 rfl (lv_at hl 0 rfl) ?_
          refine lv_aload_n hx hb dX10_holds_127 rfl (lv_at hl 1 rfl) ?_
          refine va_get (D := (dC, dI)) (ci := 10) (v := .ref (b 28)) (C := RX10) (T := TX10) (N := 51) hx hb hts inw_X10_holds_10 hown hK hP 0 rfl rfl 28 (by decide) (hts (.fieldLink RX10 66 "VatHouseModel" "two" "[I") (by decide +kernel)) (fun _ h9 => h9) rfl dX10_holds_128 ?_
          refine lv_iload_n hx hb dX10_holds_131 rfl (lv_at hl 2 rfl) ?_
          refine va_iald hx hb hK hP 18 17 rfl rfl (by assumption) dX10_holds_132 ?_
          refine lv_topi (fun z_28 ez_28 => ?_)
          have ez_28 : z_28 = (a 28) kk.toNatClampNeg := ez_28
          refine lv_icmp_ne (tgt := 140) hx hb dX10_holds_133 (by decide) (fun c_29 => ?_) (fun c_29 => ?_)
          · have nc_29 := ne_i c_29
            refine lv_iconst (v := 0) hx hb dX10_holds_140 (by decide) ?_
            exact M_z hx hb hr rfl hlocks () hP hD hK hS ⟨⟨_, rfl, Or.inl rfl⟩, trivial⟩ (Nat.le_of_ble_eq_true rfl) (Nat.le_of_ble_eq_true rfl) dX10_holds_141
          · have nc_29 := eq_i c_29
            refine lv_iconst (v := 1) hx hb dX10_holds_136 (by decide) ?_
            refine lv_goto (tgt := 141) hx hb dX10_holds_137 (by decide) ?_
            exact M_z hx hb hr rfl hlocks () hP hD hK hS ⟨⟨_, rfl, Or.inr rfl⟩, trivial⟩ (Nat.le_of_ble_eq_true rfl) (Nat.le_of_ble_eq_true rfl) dX10_holds_141
        · have nc_27 := eq_i c_27
          have lc_27 : (60 : Int32).toInt = 60 := by decide
          refine lv_iload_n hx hb dX10_holds_108 rfl (lv_at hl 0 rfl) ?_
          refine lv_aload_n hx hb dX10_holds_109 rfl (lv_at hl 1 rfl) ?_
          refine va_get (D := (dC, dI)) (ci := 10) (v := .ref (b 28)) (C := RX10) (T := TX10) (N := 51) hx hb hts inw_X10_holds_10 hown hK hP 0 rfl rfl 28 (by decide) (hts (.fieldLink RX10 66 "VatHouseModel" "two" "[I") (by decide +kernel)) (fun _ h9 => h9) rfl dX10_holds_110 ?_
          refine lv_iload_n hx hb dX10_holds_113 rfl (lv_at hl 2 rfl) ?_
          refine va_iald hx hb hK hP 18 17 rfl rfl (by assumption) dX10_holds_114 ?_
          refine lv_topi (fun z_30 ez_30 => ?_)
          have ez_30 : z_30 = (a 28) kk.toNatClampNeg := ez_30
          refine lv_icmp_ge (tgt := 122) hx hb dX10_holds_115 (by decide) (fun c_31 => ?_) (fun c_31 => ?_)
          · have nc_31 := le_i c_31
            refine lv_iconst (v := 0) hx hb dX10_holds_122 (by decide) ?_
            refine lv_goto (tgt := 141) hx hb dX10_holds_123 (by decide) ?_
            exact M_z hx hb hr rfl hlocks () hP hD hK hS ⟨⟨_, rfl, Or.inl rfl⟩, trivial⟩ (Nat.le_of_ble_eq_true rfl) (Nat.le_of_ble_eq_true rfl) dX10_holds_141
          · have nc_31 := nle_i c_31
            refine lv_iconst (v := 1) hx hb dX10_holds_118 (by decide) ?_
            refine lv_goto (tgt := 141) hx hb dX10_holds_119 (by decide) ?_
            exact M_z hx hb hr rfl hlocks () hP hD hK hS ⟨⟨_, rfl, Or.inr rfl⟩, trivial⟩ (Nat.le_of_ble_eq_true rfl) (Nat.le_of_ble_eq_true rfl) dX10_holds_141
    · have nc_4 := eq_i c_4
      have lc_4 : (15 : Int32).toInt = 15 := by decide
      refine lv_aload_n hx hb dX10_holds_30 rfl (lv_at hl 0 rfl) ?_
      refine va_get (D := (dC, dI)) (ci := 10) (v := .ref (b 14)) (C := RX10) (T := TX10) (N := 51) hx hb hts inw_X10_holds_10 hown hK hP 0 rfl rfl 14 (by decide) (hts (.fieldLink RX10 38 "VatHouseModel" "loose" "[I") (by decide +kernel)) (fun _ h9 => h9) rfl dX10_holds_31 ?_
      refine lv_iload_n hx hb dX10_holds_34 rfl (lv_at hl 2 rfl) ?_
      refine va_iald hx hb hK hP 10 9 rfl rfl (by assumption) dX10_holds_35 ?_
      refine lv_topi (fun z_32 ez_32 => ?_)
      have ez_32 : z_32 = (a 14) ck.toNatClampNeg := ez_32
      refine lv_goto (tgt := 96) hx hb dX10_holds_36 (by decide) ?_
      refine lv_istore_n (lv' := [(3, .int z_32), (0, .ref h0), (1, .int kk), (2, .int ck)]) hx hb dX10_holds_96 rfl hl (by decide) rfl (fun ls hl => ?_)
      refine lv_aload_n hx hb dX10_holds_97 rfl (lv_at hl 1 rfl) ?_
      refine va_get (D := (dC, dI)) (ci := 10) (v := .ref (b 30)) (C := RX10) (T := TX10) (N := 51) hx hb hts inw_X10_holds_10 hown hK hP 0 rfl rfl 30 (by decide) (hts (.fieldLink RX10 72 "VatHouseModel" "sign" "[I") (by decide +kernel)) (fun _ h9 => h9) rfl dX10_holds_98 ?_
      refine lv_iload_n hx hb dX10_holds_101 rfl (lv_at hl 2 rfl) ?_
      refine va_iald hx hb hK hP 20 19 rfl rfl (by assumption) dX10_holds_102 ?_
      refine lv_topi (fun z_33 ez_33 => ?_)
      have ez_33 : z_33 = (a 30) kk.toNatClampNeg := ez_33
      refine lv_bipush (v := 60) hx hb dX10_holds_103 (by decide) ?_
      refine lv_icmp_ne (tgt := 126) hx hb dX10_holds_105 (by decide) (fun c_34 => ?_) (fun c_34 => ?_)
      · have nc_34 := ne_i c_34
        have lc_34 : (60 : Int32).toInt = 60 := by decide
        refine lv_iload_n hx hb dX10_holds_126 rfl (lv_at hl 0 rfl) ?_
        refine lv_aload_n hx hb dX10_holds_127 rfl (lv_at hl 1 rfl) ?_
        refine va_get (D := (dC, dI)) (ci := 10) (v := .ref (b 28)) (C := RX10) (T := TX10) (N := 51) hx hb hts inw_X10_holds_10 hown hK hP 0 rfl rfl 28 (by decide) (hts (.fieldLink RX10 66 "VatHouseModel" "two" "[I") (by decide +kernel)) (fun _ h9 => h9) rfl dX10_holds_128 ?_
        refine lv_iload_n hx hb dX10_holds_131 rfl (lv_at hl 2 rfl) ?_
        refine va_iald hx hb hK hP 18 17 rfl rfl (by assumption) dX10_holds_132 ?_
        refine lv_topi (fun z_35 ez_35 => ?_)
        have ez_35 : z_35 = (a 28) kk.toNatClampNeg := ez_35
        refine lv_icmp_ne (tgt := 140) hx hb dX10_holds_133 (by decide) (fun c_36 => ?_) (fun c_36 => ?_)
        · have nc_36 := ne_i c_36
          refine lv_iconst (v := 0) hx hb dX10_holds_140 (by decide) ?_
          exact M_z hx hb hr rfl hlocks () hP hD hK hS ⟨⟨_, rfl, Or.inl rfl⟩, trivial⟩ (Nat.le_of_ble_eq_true rfl) (Nat.le_of_ble_eq_true rfl) dX10_holds_141
        · have nc_36 := eq_i c_36
          refine lv_iconst (v := 1) hx hb dX10_holds_136 (by decide) ?_
          refine lv_goto (tgt := 141) hx hb dX10_holds_137 (by decide) ?_
          exact M_z hx hb hr rfl hlocks () hP hD hK hS ⟨⟨_, rfl, Or.inr rfl⟩, trivial⟩ (Nat.le_of_ble_eq_true rfl) (Nat.le_of_ble_eq_true rfl) dX10_holds_141
      · have nc_34 := eq_i c_34
        have lc_34 : (60 : Int32).toInt = 60 := by decide
        refine lv_iload_n hx hb dX10_holds_108 rfl (lv_at hl 0 rfl) ?_
        refine lv_aload_n hx hb dX10_holds_109 rfl (lv_at hl 1 rfl) ?_
        refine va_get (D := (dC, dI)) (ci := 10) (v := .ref (b 28)) (C := RX10) (T := TX10) (N := 51) hx hb hts inw_X10_holds_10 hown hK hP 0 rfl rfl 28 (by decide) (hts (.fieldLink RX10 66 "VatHouseModel" "two" "[I") (by decide +kernel)) (fun _ h9 => h9) rfl dX10_holds_110 ?_
        refine lv_iload_n hx hb dX10_holds_113 rfl (lv_at hl 2 rfl) ?_
        refine va_iald hx hb hK hP 18 17 rfl rfl (by assumption) dX10_holds_114 ?_
        refine lv_topi (fun z_37 ez_37 => ?_)
        have ez_37 : z_37 = (a 28) kk.toNatClampNeg := ez_37
        refine lv_icmp_ge (tgt := 122) hx hb dX10_holds_115 (by decide) (fun c_38 => ?_) (fun c_38 => ?_)
        · have nc_38 := le_i c_38
          refine lv_iconst (v := 0) hx hb dX10_holds_122 (by decide) ?_
          refine lv_goto (tgt := 141) hx hb dX10_holds_123 (by decide) ?_
          exact M_z hx hb hr rfl hlocks () hP hD hK hS ⟨⟨_, rfl, Or.inl rfl⟩, trivial⟩ (Nat.le_of_ble_eq_true rfl) (Nat.le_of_ble_eq_true rfl) dX10_holds_141
        · have nc_38 := nle_i c_38
          refine lv_iconst (v := 1) hx hb dX10_holds_118 (by decide) ?_
          refine lv_goto (tgt := 141) hx hb dX10_holds_119 (by decide) ?_
          exact M_z hx hb hr rfl hlocks () hP hD hK hS ⟨⟨_, rfl, Or.inr rfl⟩, trivial⟩ (Nat.le_of_ble_eq_true rfl) (Nat.le_of_ble_eq_true rfl) dX10_holds_141
  · have nc_2 := eq_i c_2
    have lc_2 : (14 : Int32).toInt = 14 := by decide
    refine lv_aload_n hx hb dX10_holds_11 rfl (lv_at hl 0 rfl) ?_
    refine lv_iload_n hx hb dX10_holds_12 rfl (lv_at hl 2 rfl) ?_
    refine M_V ⟨hx, hb, hml, hown, hts⟩ (m_X10_shadeOf l dC dI sa g h0 b i a ck _ hc30 hwt) (cwV 1 hts gX10_holds_X10_shadeOf rfl rfl rfl (by decide +kernel) ⟨Nat.le_of_ble_eq_true rfl, Nat.le_of_ble_eq_true rfl⟩) hP hD hK hS hA hev rfl rfl rfl rfl hl.1 rfl (Nat.le_of_ble_eq_true rfl) dX10_holds_13 ⟨(Nat.le_of_ble_eq_true rfl), (Nat.le_of_ble_eq_true rfl)⟩ (fun r u H locs hw hP hD hS => ?_)
    have hw : (∃ z : Int32, r = some (.int z)) ∧ (True) := hw
    obtain ⟨⟨z_40, rfl⟩, hw_39⟩ := hw
    have hP : va_P (dC, dI) vwCl (mw g h0 b i a) _ := hP
    have hD : va_D _ (mw g h0 b i a) := hD
    refine W.eq (g2 := F0 m 16 ls [.int z_40]) rfl ?_
    refine lv_goto (tgt := 96) hx hb dX10_holds_16 (by decide) ?_
    refine lv_istore_n (lv' := [(3, .int z_40), (0, .ref h0), (1, .int kk), (2, .int ck)]) hx hb dX10_holds_96 rfl hl (by decide) rfl (fun ls hl => ?_)
    refine lv_aload_n hx hb dX10_holds_97 rfl (lv_at hl 1 rfl) ?_
    refine va_get (D := (dC, dI)) (ci := 10) (v := .ref (b 30)) (C := RX10) (T := TX10) (N := 51) hx hb hts inw_X10_holds_10 hown hK hP 0 rfl rfl 30 (by decide) (hts (.fieldLink RX10 72 "VatHouseModel" "sign" "[I") (by decide +kernel)) (fun _ h9 => h9) rfl dX10_holds_98 ?_
    refine lv_iload_n hx hb dX10_holds_101 rfl (lv_at hl 2 rfl) ?_
    refine va_iald hx hb hK hP 20 19 rfl rfl (by assumption) dX10_holds_102 ?_
    refine lv_topi (fun z_41 ez_41 => ?_)
    have ez_41 : z_41 = (a 30) kk.toNatClampNeg := ez_41
    refine lv_bipush (v := 60) hx hb dX10_holds_103 (by decide) ?_
    refine lv_icmp_ne (tgt := 126) hx hb dX10_holds_105 (by decide) (fun c_42 => ?_) (fun c_42 => ?_)
    · have nc_42 := ne_i c_42
      have lc_42 : (60 : Int32).toInt = 60 := by decide
      refine lv_iload_n hx hb dX10_holds_126 rfl (lv_at hl 0 rfl) ?_
      refine lv_aload_n hx hb dX10_holds_127 rfl (lv_at hl 1 rfl) ?_
      refine va_get (D := (dC, dI)) (ci := 10) (v := .ref (b 28)) (C := RX10) (T := TX10) (N := 51) hx hb hts inw_X10_holds_10 hown hK hP 0 rfl rfl 28 (by decide) (hts (.fieldLink RX10 66 "VatHouseModel" "two" "[I") (by decide +kernel)) (fun _ h9 => h9) rfl dX10_holds_128 ?_
      refine lv_iload_n hx hb dX10_holds_131 rfl (lv_at hl 2 rfl) ?_
      refine va_iald hx hb hK hP 18 17 rfl rfl (by assumption) dX10_holds_132 ?_
      refine lv_topi (fun z_43 ez_43 => ?_)
      have ez_43 : z_43 = (a 28) kk.toNatClampNeg := ez_43
      refine lv_icmp_ne (tgt := 140) hx hb dX10_holds_133 (by decide) (fun c_44 => ?_) (fun c_44 => ?_)
      · have nc_44 := ne_i c_44
        refine lv_iconst (v := 0) hx hb dX10_holds_140 (by decide) ?_
        exact M_z hx hb hr rfl hlocks () hP hD hK hS ⟨⟨_, rfl, Or.inl rfl⟩, trivial⟩ (Nat.le_of_ble_eq_true rfl) (Nat.le_of_ble_eq_true rfl) dX10_holds_141
      · have nc_44 := eq_i c_44
        refine lv_iconst (v := 1) hx hb dX10_holds_136 (by decide) ?_
        refine lv_goto (tgt := 141) hx hb dX10_holds_137 (by decide) ?_
        exact M_z hx hb hr rfl hlocks () hP hD hK hS ⟨⟨_, rfl, Or.inr rfl⟩, trivial⟩ (Nat.le_of_ble_eq_true rfl) (Nat.le_of_ble_eq_true rfl) dX10_holds_141
    · have nc_42 := eq_i c_42
      have lc_42 : (60 : Int32).toInt = 60 := by decide
      refine lv_iload_n hx hb dX10_holds_108 rfl (lv_at hl 0 rfl) ?_
      refine lv_aload_n hx hb dX10_holds_109 rfl (lv_at hl 1 rfl) ?_
      refine va_get (D := (dC, dI)) (ci := 10) (v := .ref (b 28)) (C := RX10) (T := TX10) (N := 51) hx hb hts inw_X10_holds_10 hown hK hP 0 rfl rfl 28 (by decide) (hts (.fieldLink RX10 66 "VatHouseModel" "two" "[I") (by decide +kernel)) (fun _ h9 => h9) rfl dX10_holds_110 ?_
      refine lv_iload_n hx hb dX10_holds_113 rfl (lv_at hl 2 rfl) ?_
      refine va_iald hx hb hK hP 18 17 rfl rfl (by assumption) dX10_holds_114 ?_
      refine lv_topi (fun z_45 ez_45 => ?_)
      have ez_45 : z_45 = (a 28) kk.toNatClampNeg := ez_45
      refine lv_icmp_ge (tgt := 122) hx hb dX10_holds_115 (by decide) (fun c_46 => ?_) (fun c_46 => ?_)
      · have nc_46 := le_i c_46
        refine lv_iconst (v := 0) hx hb dX10_holds_122 (by decide) ?_
        refine lv_goto (tgt := 141) hx hb dX10_holds_123 (by decide) ?_
        exact M_z hx hb hr rfl hlocks () hP hD hK hS ⟨⟨_, rfl, Or.inl rfl⟩, trivial⟩ (Nat.le_of_ble_eq_true rfl) (Nat.le_of_ble_eq_true rfl) dX10_holds_141
      · have nc_46 := nle_i c_46
        refine lv_iconst (v := 1) hx hb dX10_holds_118 (by decide) ?_
        refine lv_goto (tgt := 141) hx hb dX10_holds_119 (by decide) ?_
        exact M_z hx hb hr rfl hlocks () hP hD hK hS ⟨⟨_, rfl, Or.inr rfl⟩, trivial⟩ (Nat.le_of_ble_eq_true rfl) (Nat.le_of_ble_eq_true rfl) dX10_holds_141

abbrev rm_X10_row (V : Nat → Prop) (dp : Nat → Nat) (j : Nat) (dl : Nat) : Room := { frames := 3 * j + 40, cells := 0, slots := 0, locals := 100 * j + 700 }
abbrev rm_X10_does (V : Nat → Prop) (dp : Nat → Nat) (j : Nat) (dl : Nat) : Room := { frames := 3 * j + 39, cells := 0, slots := 0, locals := 100 * j + 666 }
abbrev rm_X10_doesBlocks (V : Nat → Prop) (dp : Nat → Nat) (j : Nat) (dl : Nat) : Room := { frames := 3 * j + 38, cells := 0, slots := 0, locals := 100 * j + 633 }
theorem tab_out_7_10 {x : Int32} (h7 : ¬ x = 7) (h8 : ¬ x = 8) (h9 : ¬ x = 9) (h10 : ¬ x = 10) : x.toInt < 7 ∨ 10 < x.toInt := by
  have e7 : x.toInt ≠ 7 := fun h => h7 (Int32.toInt_inj.mp h)
  have e8 : x.toInt ≠ 8 := fun h => h8 (Int32.toInt_inj.mp h)
  have e9 : x.toInt ≠ 9 := fun h => h9 (Int32.toInt_inj.mp h)
  have e10 : x.toInt ≠ 10 := fun h => h10 (Int32.toInt_inj.mp h)
  omega

theorem inw_X10_doesBlocks_10 : ∀ w ∈ wsX100, w ∈ wsX10_doesBlocks := by decide +kernel
set_option maxHeartbeats 1000000 in
set_option maxRecDepth 100000 in
theorem m_X10_doesBlocks (l : Launch) (dC : Nat → ClassId) (dI : Nat → Nat → Nat) (sa : Nat → Nat) (g : Nat → Nat) (h0 : Nat) (b : Nat → Nat) (V : Nat → Prop) (dp : Nat → Nat) (j : Nat) (dl : Nat) (i : Nat → Int32) (a : Nat → Nat → Int32) (kk : Int32) (ck : Int32) (sz : Nat) (hND : ND V dp (a 26) (a 27) (a 31) (a 32) (a 33)) (hj : dl + j = 9) (hnode : ∃ q : Nat, kk = nI q ∧ V q ∧ dp q = dl) (hc30 : vp_in ck 30) (hwt : 1 ≤ ((a 13) ck.toNatClampNeg).toInt ∧ ((a 13) ck.toNatClampNeg).toInt ≤ 50) (hL : (i 40).toInt ≤ (i 39).toInt) (IHR : ∀ j' dl' : Nat, dl' + j' = 9 → j = j' + 1 → ∀ (i : Nat → Int32) (a : Nat → Nat → Int32) (hn : Int32) (ck : Int32) (sz : Nat) (hND : ND V dp (a 26) (a 27) (a 31) (a 32) (a 33)) (hlk0 : lk V dp dl' hn) (hc30 : vp_in ck 30) (hwt : 1 ≤ ((a 13) ck.toNatClampNeg).toInt ∧ ((a 13) ck.toNatClampNeg).toInt ≤ 50) (hL : (i 40).toInt ≤ (i 39).toInt), CT l dC dI sa yX10_row wsX10_row (rm_X10_row V dp j' dl') [.ref h0, .int hn, .int ck] (mw g h0 b i a) (tyM g) sz (fun (r : Option Value) (u : Int32 × Int32 × Int32 × Int32 × Int32 × Int32 × (Nat → Int32) × (Nat → Int32) × (Nat → Int32) × (Nat → Int32) × (Nat → Int32) × (Nat → Int32) × (Nat → Int32) × (Nat → Int32) × (Nat → Int32) × (Nat → Int32) × (Nat → Int32) × (Nat → Int32)) => match u with | (x1, x2, x40, x41, x42, x43, y4, y5, y6, y7, y8, y9, y10, y11, y14, y15, y17, y18) => (∃ z : Int32, r = some (.int z)) ∧ ((i 40).toInt ≤ x40.toInt ∧ x40.toInt ≤ (i 39).toInt)) (fun (u : Int32 × Int32 × Int32 × Int32 × Int32 × Int32 × (Nat → Int32) × (Nat → Int32) × (Nat → Int32) × (Nat → Int32) × (Nat → Int32) × (Nat → Int32) × (Nat → Int32) × (Nat → Int32) × (Nat → Int32) × (Nat → Int32) × (Nat → Int32) × (Nat → Int32)) => match u with | (x1, x2, x40, x41, x42, x43, y4, y5, y6, y7, y8, y9, y10, y11, y14, y15, y17, y18) => mw g h0 b (va_up (va_up (va_up (va_up (va_up (va_up i 1 x1) 2 x2) 40 x40) 41 x41) 42 x42) 43 x43) (va_up (va_up (va_up (va_up (va_up (va_up (va_up (va_up (va_up (va_up (va_up (va_up a 4 y4) 5 y5) 6 y6) 7 y7) 8 y8) 9 y9) 10 y10) 11 y11) 14 y14) 15 y15) 17 y17) 18 y18)) (fun _ => []) 0 0) : CT l dC dI sa yX10_doesBlocks wsX10_doesBlocks (rm_X10_doesBlocks V dp j dl) [.ref h0, .int kk, .int ck] (mw g h0 b i a) (tyM g) sz (fun (r : Option Value) (u : Int32 × Int32 × Int32 × Int32 × Int32 × Int32 × (Nat → Int32) × (Nat → Int32) × (Nat → Int32) × (Nat → Int32) × (Nat → Int32) × (Nat → Int32) × (Nat → Int32) × (Nat → Int32) × (Nat → Int32) × (Nat → Int32) × (Nat → Int32) × (Nat → Int32)) => match u with | (x1, x2, x40, x41, x42, x43, y4, y5, y6, y7, y8, y9, y10, y11, y14, y15, y17, y18) => (∃ z : Int32, r = some (.int z)) ∧ ((i 40).toInt ≤ x40.toInt ∧ x40.toInt ≤ (i 39).toInt)) (fun (u : Int32 × Int32 × Int32 × Int32 × Int32 × Int32 × (Nat → Int32) × (Nat → Int32) × (Nat → Int32) × (Nat → Int32) × (Nat → Int32) × (Nat → Int32) × (Nat → Int32) × (Nat → Int32) × (Nat → Int32) × (Nat → Int32) × (Nat → Int32) × (Nat → Int32)) => match u with | (x1, x2, x40, x41, x42, x43, y4, y5, y6, y7, y8, y9, y10, y11, y14, y15, y17, y18) => mw g h0 b (va_up (va_up (va_up (va_up (va_up (va_up i 1 x1) 2 x2) 40 x40) 41 x41) 42 x42) 43 x43) (va_up (va_up (va_up (va_up (va_up (va_up (va_up (va_up (va_up (va_up (va_up (va_up a 4 y4) 5 y5) 6 y6) 7 y7) 8 y8) 9 y9) 10 y10) 11 y11) 14 y14) 15 y15) 17 y17) 18 y18)) (fun _ => []) 0 0 := by
  refine CT.start (cc := cX10_doesBlocks) (maxL := 5) (ret := (some .int)) (by decide) rfl (Nat.le_of_ble_eq_true rfl) ?_
  intro p e s m below meth c ls hst hP hK hD hev hS hl
  obtain ⟨hx, hb, hr, hml, hts, hown, hlocks, hin⟩ := hst
  have hown : s.vm.findClass RX10 = some m.cls := hown
  have hA : ∀ q : Nat, s.heap.size ≤ q → va_A (mw g h0 b i a) s.heap.size q := fun _ h => Or.inr h
  have hl : lv_has ls 5 [(0, .ref h0), (1, .int kk), (2, .int ck)] := hl
  obtain ⟨q, hq, hVq, hdq⟩ := hnode
  have hq27 := (hND q hVq).1
  have hkq : kk.toNatClampNeg = q := by rw [hq]; exact nI_clamp (by omega)
  have hk : vp_in kk 2700 := by rw [hq]; exact vp_in_nI hq27 (by decide)
  have hd8 := (hND q hVq).2.1
  obtain ⟨j1, hj1⟩ : ∃ j1, j = j1 + 1 := ⟨j - 1, by omega⟩
  refine lv_iconst (v := 0) hx hb dX10_doesBlocks_0 (by decide) ?_
  refine lv_istore_n (lv' := [(3, .int 0), (0, .ref h0), (1, .int kk), (2, .int ck)]) hx hb dX10_doesBlocks_1 rfl hl (by decide) rfl (fun ls hl => ?_)
  refine lv_aload_n hx hb dX10_doesBlocks_2 rfl (lv_at hl 1 rfl) ?_
  refine va_get (D := (dC, dI)) (ci := 10) (v := .ref (b 26)) (C := RX10) (T := TX10) (N := 51) hx hb hts inw_X10_doesBlocks_10 hown hK hP 0 rfl rfl 26 (by decide) (hts (.fieldLink RX10 60 "VatHouseModel" "kind" "[I") (by decide +kernel)) (fun _ h9 => h9) rfl dX10_doesBlocks_3 ?_
  refine lv_iload_n hx hb dX10_doesBlocks_6 rfl (lv_at hl 2 rfl) ?_
  refine va_iald hx hb hK hP 16 15 rfl rfl (by assumption) dX10_doesBlocks_7 ?_
  refine lv_topi (fun z_1 ez_1 => ?_)
  have ez_1 : z_1 = (a 26) kk.toNatClampNeg := ez_1
  by_cases c_2 : z_1 = 7
  · refine lv_tableIn (tgt := 40) hx hb dX10_doesBlocks_8 (by rw [c_2]; decide) (by rw [c_2]; decide) (by rw [c_2]; rfl) (by decide) ?_
    refine lv_iconst (v := 0) hx hb dX10_doesBlocks_40 (by decide) ?_
    refine lv_istore (lv' := [(4, .int 0), (3, .int 0), (0, .ref h0), (1, .int kk), (2, .int ck)]) hx hb dX10_doesBlocks_41 hl (by decide) rfl (fun ls hl => ?_)
    have lp : ∀ (n : Nat) (en : Int32) (zz : Int32) (l1 : Int32) (l2 : Int32) (l40 : Int32) (l41 : Int32) (l42 : Int32) (l43 : Int32) (l4 : Nat → Int32) (l5 : Nat → Int32) (l6 : Nat → Int32) (l7 : Nat → Int32) (l8 : Nat → Int32) (l9 : Nat → Int32) (l10 : Nat → Int32) (l11 : Nat → Int32) (l14 : Nat → Int32) (l15 : Nat → Int32) (l17 : Nat → Int32) (l18 : Nat → Int32) (H : Heap) (locs : List Loc) (ls : Array Slot), ((en = 0 → ((i 39).toInt - l40.toInt).toNat + 1 < n) ∧ 0 < n) → (l40.toInt ≤ (i 39).toInt) → ((i 40).toInt ≤ l40.toInt) → va_P (dC, dI) vwCl (mw g h0 b (va_up (va_up (va_up (va_up (va_up (va_up i 1 l1) 2 l2) 40 l40) 41 l41) 42 l42) 43 l43) (va_up (va_up (va_up (va_up (va_up (va_up (va_up (va_up (va_up (va_up (va_up (va_up a 4 l4) 5 l5) 6 l6) 7 l7) 8 l8) 9 l9) 10 l10) 11 l11) 14 l14) 15 l15) 17 l17) 18 l18)) H → va_D (va_A (mw g h0 b i a) s.heap.size) (mw g h0 b (va_up (va_up (va_up (va_up (va_up (va_up i 1 l1) 2 l2) 40 l40) 41 l41) 42 l42) 43 l43) (va_up (va_up (va_up (va_up (va_up (va_up (va_up (va_up (va_up (va_up (va_up (va_up a 4 l4) 5 l5) 6 l6) 7 l7) 8 l8) 9 l9) 10 l10) 11 l11) 14 l14) 15 l15) 17 l17) 18 l18)) → va_S (va_A (mw g h0 b i a) s.heap.size) s.heap H locs → lv_has ls 5 [(3, .int en), (4, .int zz), (0, .ref h0), (1, .int kk), (2, .int ck)] → W p l e (rm_X10_doesBlocks V dp j dl) s m [.ref h0, .int kk, .int ck].toArray below meth c H locs 0 0 (MQ below (Qg (fun (r : Option Value) (u : Int32 × Int32 × Int32 × Int32 × Int32 × Int32 × (Nat → Int32) × (Nat → Int32) × (Nat → Int32) × (Nat → Int32) × (Nat → Int32) × (Nat → Int32) × (Nat → Int32) × (Nat → Int32) × (Nat → Int32) × (Nat → Int32) × (Nat → Int32) × (Nat → Int32)) => match u with | (x1, x2, x40, x41, x42, x43, y4, y5, y6, y7, y8, y9, y10, y11, y14, y15, y17, y18) => (∃ z : Int32, r = some (.int z)) ∧ ((i 40).toInt ≤ x40.toInt ∧ x40.toInt ≤ (i 39).toInt)) (fun u t => QW dC dI (va_A (mw g h0 b i a) s.heap.size) ((fun (u : Int32 × Int32 × Int32 × Int32 × Int32 × Int32 × (Nat → Int32) × (Nat → Int32) × (Nat → Int32) × (Nat → Int32) × (Nat → Int32) × (Nat → Int32) × (Nat → Int32) × (Nat → Int32) × (Nat → Int32) × (Nat → Int32) × (Nat → Int32) × (Nat → Int32)) => match u with | (x1, x2, x40, x41, x42, x43, y4, y5, y6, y7, y8, y9, y10, y11, y14, y15, y17, y18) => mw g h0 b (va_up (va_up (va_up (va_up (va_up (va_up i 1 x1) 2 x2) 40 x40) 41 x41) 42 x42) 43 x43) (va_up (va_up (va_up (va_up (va_up (va_up (va_up (va_up (va_up (va_up (va_up (va_up a 4 y4) 5 y5) 6 y6) 7 y7) 8 y8) 9 y9) 10 y10) 11 y11) 14 y14) 15 y15) 17 y17) 18 y18)) u) [] t) (va_A (mw g h0 b i a) s.heap.size)) [.ref h0, .int kk, .int ck].toArray s 0 0 (va_A (mw g h0 b i a) s.heap.size)) (F0 m 43 ls []) := by
      intro n
      induction n with
      | zero => intro en zz l1 l2 l40 l41 l42 l43 l4 l5 l6 l7 l8 l9 l10 l11 l14 l15 l17 l18 H locs ls hm hLl hge hP hD hS hl; exact absurd hm.2 (by omega)
      | succ n ih =>
        intro en zz l1 l2 l40 l41 l42 l43 l4 l5 l6 l7 l8 l9 l10 l11 l14 l15 l17 l18 H locs ls hm hLl hge hP hD hS hl
        refine lv_iload hx hb dX10_doesBlocks_43 (lv_at hl 1 rfl) ?_
        refine lv_aload_n hx hb dX10_doesBlocks_45 rfl (lv_at hl 2 rfl) ?_
        refine va_get (D := (dC, dI)) (ci := 10) (v := .ref (b 27)) (C := RX10) (T := TX10) (N := 51) hx hb hts inw_X10_doesBlocks_10 hown hK hP 0 rfl rfl 27 (by decide) (hts (.fieldLink RX10 63 "VatHouseModel" "one" "[I") (by decide +kernel)) (fun _ h9 => h9) rfl dX10_doesBlocks_46 ?_
        refine lv_iload_n hx hb dX10_doesBlocks_49 rfl (lv_at hl 3 rfl) ?_
        refine va_iald hx hb hK hP 17 16 rfl rfl (by assumption) dX10_doesBlocks_50 ?_
        refine lv_topi (fun z_3 ez_3 => ?_)
        have ez_3 : z_3 = (a 27) kk.toNatClampNeg := ez_3
        refine lv_icmp_ge (tgt := 89) hx hb dX10_doesBlocks_51 (by decide) (fun c_4 => ?_) (fun c_4 => ?_)
        · have nc_4 := le_i c_4
          refine lv_iload_n hx hb dX10_doesBlocks_89 rfl (lv_at hl 0 rfl) ?_
          exact M_i hx hb hr hlocks (l1, l2, l40, l41, l42, l43, l4, l5, l6, l7, l8, l9, l10, l11, l14, l15, l17, l18) hP hD hK hS ⟨⟨_, rfl⟩, ⟨by omega, by omega⟩⟩ (by first | exact Nat.le_of_ble_eq_true rfl | (simp only [rm_X10_doesBlocks]; omega)) (by first | exact Nat.le_of_ble_eq_true rfl | (simp only [rm_X10_doesBlocks]; omega)) dX10_doesBlocks_90
        · have nc_4 := nle_i c_4
          refine lv_iload_n hx hb dX10_doesBlocks_54 rfl (lv_at hl 0 rfl) ?_
          refine lv_if_ne (tgt := 89) hx hb dX10_doesBlocks_55 (by decide) (fun c_5 => ?_) (fun c_5 => ?_)
          · have nc_5 := ne_i c_5
            have lc_5 : (0 : Int32).toInt = 0 := by decide
            refine lv_iload_n hx hb dX10_doesBlocks_89 rfl (lv_at hl 0 rfl) ?_
            exact M_i hx hb hr hlocks (l1, l2, l40, l41, l42, l43, l4, l5, l6, l7, l8, l9, l10, l11, l14, l15, l17, l18) hP hD hK hS ⟨⟨_, rfl⟩, ⟨by omega, by omega⟩⟩ (by first | exact Nat.le_of_ble_eq_true rfl | (simp only [rm_X10_doesBlocks]; omega)) (by first | exact Nat.le_of_ble_eq_true rfl | (simp only [rm_X10_doesBlocks]; omega)) dX10_doesBlocks_90
          · have nc_5 := eq_i c_5
            have lc_5 : (0 : Int32).toInt = 0 := by decide
            refine lv_aload_n hx hb dX10_doesBlocks_58 rfl (lv_at hl 2 rfl) ?_
            refine M_V ⟨hx, hb, hml, hown, hts⟩ (m_X10_counts l dC dI sa g h0 b (va_up (va_up (va_up (va_up (va_up (va_up i 1 l1) 2 l2) 40 l40) 41 l41) 42 l42) 43 l43) (va_up (va_up (va_up (va_up (va_up (va_up (va_up (va_up (va_up (va_up (va_up (va_up a 4 l4) 5 l5) 6 l6) 7 l7) 8 l8) 9 l9) 10 l10) 11 l11) 14 l14) 15 l15) 17 l17) 18 l18)  _ (show l40.toInt ≤ (i 39).toInt from by omega)) (cwV 0 hts gX10_doesBlocks_X10_counts rfl rfl rfl (by decide +kernel) ⟨(by first | exact Nat.le_of_ble_eq_true rfl | (simp only [rm_X10_counts, rm_X10_doesBlocks]; omega)), (by first | exact Nat.le_of_ble_eq_true rfl | (simp only [rm_X10_counts, rm_X10_doesBlocks]; omega))⟩) hP hD hK hS hA hev rfl rfl rfl rfl hl.1 rfl (Nat.le_of_ble_eq_true rfl) dX10_doesBlocks_59 ⟨(by first | exact Nat.le_of_ble_eq_true rfl | (simp only [rm_X10_doesBlocks]; omega)), (by first | exact Nat.le_of_ble_eq_true rfl | (simp only [rm_X10_doesBlocks]; omega))⟩ (fun r u H locs hw hP hD hS => ?_)
            obtain ⟨x40_6, rfl⟩ : ∃ z, z = u := ⟨_, rfl⟩
            have hw : ((r = some (.int 0) ∧ (x40_6.toInt = l40.toInt)) ∨ (r = some (.int 1) ∧ (x40_6.toInt = l40.toInt + 1 ∧ x40_6.toInt ≤ (i 39).toInt))) ∧ (True) := hw
            obtain ⟨⟨rfl, hz2_8⟩ | ⟨rfl, hz2_8⟩, hw_7⟩ := hw
            · have hP : va_P (dC, dI) vwCl (mw g h0 b (va_up (va_up (va_up (va_up (va_up (va_up i 1 l1) 2 l2) 40 x40_6) 41 l41) 42 l42) 43 l43) (va_up (va_up (va_up (va_up (va_up (va_up (va_up (va_up (va_up (va_up (va_up (va_up a 4 l4) 5 l5) 6 l6) 7 l7) 8 l8) 9 l9) 10 l10) 11 l11) 14 l14) 15 l15) 17 l17) 18 l18)) _ := hP
              have hD : va_D _ (mw g h0 b (va_up (va_up (va_up (va_up (va_up (va_up i 1 l1) 2 l2) 40 x40_6) 41 l41) 42 l42) 43 l43) (va_up (va_up (va_up (va_up (va_up (va_up (va_up (va_up (va_up (va_up (va_up (va_up a 4 l4) 5 l5) 6 l6) 7 l7) 8 l8) 9 l9) 10 l10) 11 l11) 14 l14) 15 l15) 17 l17) 18 l18)) := hD
              refine W.eq (g2 := F0 m 62 ls [.int 0]) rfl ?_
              refine lv_if_eq (tgt := 79) hx hb dX10_doesBlocks_62 (by decide) (fun _ => ?_) (fun c_9 => absurd c_9 (by decide))
              refine lv_sipush (v := 1000) hx hb dX10_doesBlocks_79 (by decide) ?_
              refine lv_istore_n (lv' := [(3, .int 1000), (4, .int zz), (0, .ref h0), (1, .int kk), (2, .int ck)]) hx hb dX10_doesBlocks_82 rfl hl (by decide) rfl (fun ls hl => ?_)
              refine lv_iinc (v := (zz + 1)) (lv' := [(4, .int (zz + 1)), (3, .int 1000), (0, .ref h0), (1, .int kk), (2, .int ck)]) hx hb dX10_doesBlocks_83 hl (k := 1) rfl rfl (by decide) rfl (fun ls hl => ?_)
              refine lv_goto (tgt := 43) hx hb dX10_doesBlocks_86 (by decide) ?_
              exact ih (1000 : Int32) (zz + 1) l1 l2 x40_6 l41 l42 l43 l4 l5 l6 l7 l8 l9 l10 l11 l14 l15 l17 l18 _ _ _ (⟨fun h9 => absurd h9 (by decide), by have := hm.1 c_5; omega⟩) (by omega) (by omega) hP hD hS (lv_sub hl [1, 0, 2, 3, 4] rfl)
            · have hP : va_P (dC, dI) vwCl (mw g h0 b (va_up (va_up (va_up (va_up (va_up (va_up i 1 l1) 2 l2) 40 x40_6) 41 l41) 42 l42) 43 l43) (va_up (va_up (va_up (va_up (va_up (va_up (va_up (va_up (va_up (va_up (va_up (va_up a 4 l4) 5 l5) 6 l6) 7 l7) 8 l8) 9 l9) 10 l10) 11 l11) 14 l14) 15 l15) 17 l17) 18 l18)) _ := hP
              have hD : va_D _ (mw g h0 b (va_up (va_up (va_up (va_up (va_up (va_up i 1 l1) 2 l2) 40 x40_6) 41 l41) 42 l42) 43 l43) (va_up (va_up (va_up (va_up (va_up (va_up (va_up (va_up (va_up (va_up (va_up (va_up a 4 l4) 5 l5) 6 l6) 7 l7) 8 l8) 9 l9) 10 l10) 11 l11) 14 l14) 15 l15) 17 l17) 18 l18)) := hD
              refine W.eq (g2 := F0 m 62 ls [.int 1]) rfl ?_
              refine lv_if_eq (tgt := 79) hx hb dX10_doesBlocks_62 (by decide) (fun c_10 => absurd c_10 (by decide)) (fun _ => ?_)
              refine lv_aload_n hx hb dX10_doesBlocks_65 rfl (lv_at hl 2 rfl) ?_
              refine lv_aload_n hx hb dX10_doesBlocks_66 rfl (lv_at hl 2 rfl) ?_
              refine va_get (D := (dC, dI)) (ci := 10) (v := .ref (b 31)) (C := RX10) (T := TX10) (N := 51) hx hb hts inw_X10_doesBlocks_10 hown hK hP 0 rfl rfl 31 (by decide) (hts (.fieldLink RX10 75 "VatHouseModel" "inner" "[I") (by decide +kernel)) (fun _ h9 => h9) rfl dX10_doesBlocks_67 ?_
              refine lv_iload_n hx hb dX10_doesBlocks_70 rfl (lv_at hl 3 rfl) ?_
              refine va_iald hx hb hK hP 21 20 rfl rfl (by assumption) dX10_doesBlocks_71 ?_
              refine lv_topi (fun z_11 ez_11 => ?_)
              have ez_11 : z_11 = (a 31) kk.toNatClampNeg := ez_11
              refine lv_iload_n hx hb dX10_doesBlocks_72 rfl (lv_at hl 4 rfl) ?_
              refine M_V ⟨hx, hb, hml, hown, hts⟩ (IHR j1 (dl + 1) (by omega) hj1 (va_up (va_up (va_up (va_up (va_up (va_up i 1 l1) 2 l2) 40 x40_6) 41 l41) 42 l42) 43 l43) (va_up (va_up (va_up (va_up (va_up (va_up (va_up (va_up (va_up (va_up (va_up (va_up a 4 l4) 5 l5) 6 l6) 7 l7) 8 l8) 9 l9) 10 l10) 11 l11) 14 l14) 15 l15) 17 l17) 18 l18) z_11 ck _ hND (by rw [ez_11, hkq, ← hdq]; exact (hND q hVq).2.2.2.1) hc30 hwt (show x40_6.toInt ≤ (i 39).toInt from by omega)) (cwV 2 hts gX10_doesBlocks_X10_row rfl rfl rfl (by decide +kernel) ⟨(by first | exact Nat.le_of_ble_eq_true rfl | (simp only [rm_X10_row, rm_X10_doesBlocks]; omega)), (by first | exact Nat.le_of_ble_eq_true rfl | (simp only [rm_X10_row, rm_X10_doesBlocks]; omega))⟩) hP hD hK hS hA hev rfl rfl rfl rfl hl.1 rfl (Nat.le_of_ble_eq_true rfl) dX10_doesBlocks_73 ⟨(by first | exact Nat.le_of_ble_eq_true rfl | (simp only [rm_X10_doesBlocks]; omega)), (by first | exact Nat.le_of_ble_eq_true rfl | (simp only [rm_X10_doesBlocks]; omega))⟩ (fun r u H locs hw hP hD hS => ?_)
              obtain ⟨x1_12, x2_13, x40_14, x41_15, x42_16, x43_17, y4_18, y5_19, y6_20, y7_21, y8_22, y9_23, y10_24, y11_25, y14_26, y15_27, y17_28, y18_29⟩ := u
              have hw : (∃ z : Int32, r = some (.int z)) ∧ (x40_6.toInt ≤ x40_14.toInt ∧ x40_14.toInt ≤ (i 39).toInt) := hw
              obtain ⟨⟨z_31, rfl⟩, hw_30⟩ := hw
              have hP : va_P (dC, dI) vwCl (mw g h0 b (va_up (va_up (va_up (va_up (va_up (va_up i 1 x1_12) 2 x2_13) 40 x40_14) 41 x41_15) 42 x42_16) 43 x43_17) (va_up (va_up (va_up (va_up (va_up (va_up (va_up (va_up (va_up (va_up (va_up (va_up a 4 y4_18) 5 y5_19) 6 y6_20) 7 y7_21) 8 y8_22) 9 y9_23) 10 y10_24) 11 y11_25) 14 y14_26) 15 y15_27) 17 y17_28) 18 y18_29)) _ := hP
              have hD : va_D _ (mw g h0 b (va_up (va_up (va_up (va_up (va_up (va_up i 1 x1_12) 2 x2_13) 40 x40_14) 41 x41_15) 42 x42_16) 43 x43_17) (va_up (va_up (va_up (va_up (va_up (va_up (va_up (va_up (va_up (va_up (va_up (va_up a 4 y4_18) 5 y5_19) 6 y6_20) 7 y7_21) 8 y8_22) 9 y9_23) 10 y10_24) 11 y11_25) 14 y14_26) 15 y15_27) 17 y17_28) 18 y18_29)) := hD
              refine W.eq (g2 := F0 m 76 ls [.int z_31]) rfl ?_
              refine lv_goto (tgt := 82) hx hb dX10_doesBlocks_76 (by decide) ?_
              refine lv_istore_n (lv' := [(3, .int z_31), (4, .int zz), (0, .ref h0), (1, .int kk), (2, .int ck)]) hx hb dX10_doesBlocks_82 rfl hl (by decide) rfl (fun ls hl => ?_)
              refine lv_iinc (v := (zz + 1)) (lv' := [(4, .int (zz + 1)), (3, .int z_31), (0, .ref h0), (1, .int kk), (2, .int ck)]) hx hb dX10_doesBlocks_83 hl (k := 1) rfl rfl (by decide) rfl (fun ls hl => ?_)
              refine lv_goto (tgt := 43) hx hb dX10_doesBlocks_86 (by decide) ?_
              exact ih z_31 (zz + 1) x1_12 x2_13 x40_14 x41_15 x42_16 x43_17 y4_18 y5_19 y6_20 y7_21 y8_22 y9_23 y10_24 y11_25 y14_26 y15_27 y17_28 y18_29 _ _ _ (⟨fun _ => by have := hm.1 c_5; omega, by have := hm.1 c_5; omega⟩) (by omega) (by omega) hP hD hS (lv_sub hl [1, 0, 2, 3, 4] rfl)
    exact lp (((i 39).toInt - (i 40).toInt).toNat + 2) (0 : Int32) (0 : Int32) (i 1) (i 2) (i 40) (i 41) (i 42) (i 43) (a 4) (a 5) (a 6) (a 7) (a 8) (a 9) (a 10) (a 11) (a 14) (a 15) (a 17) (a 18) _ _ _ (⟨fun _ => by omega, by omega⟩) (by omega) (by omega) hP hD hS (lv_sub hl [1, 0, 2, 3, 4] rfl)
  by_cases c_32 : z_1 = 8
  · refine lv_tableIn (tgt := 91) hx hb dX10_doesBlocks_8 (by rw [c_32]; decide) (by rw [c_32]; decide) (by rw [c_32]; rfl) (by decide) ?_
    have lp : ∀ (n : Nat) (en : Int32) (l1 : Int32) (l2 : Int32) (l40 : Int32) (l41 : Int32) (l42 : Int32) (l43 : Int32) (l4 : Nat → Int32) (l5 : Nat → Int32) (l6 : Nat → Int32) (l7 : Nat → Int32) (l8 : Nat → Int32) (l9 : Nat → Int32) (l10 : Nat → Int32) (l11 : Nat → Int32) (l14 : Nat → Int32) (l15 : Nat → Int32) (l17 : Nat → Int32) (l18 : Nat → Int32) (H : Heap) (locs : List Loc) (ls : Array Slot), ((en = 0 → ((i 39).toInt - l40.toInt).toNat + 1 < n) ∧ 0 < n) → (l40.toInt ≤ (i 39).toInt) → ((i 40).toInt ≤ l40.toInt) → va_P (dC, dI) vwCl (mw g h0 b (va_up (va_up (va_up (va_up (va_up (va_up i 1 l1) 2 l2) 40 l40) 41 l41) 42 l42) 43 l43) (va_up (va_up (va_up (va_up (va_up (va_up (va_up (va_up (va_up (va_up (va_up (va_up a 4 l4) 5 l5) 6 l6) 7 l7) 8 l8) 9 l9) 10 l10) 11 l11) 14 l14) 15 l15) 17 l17) 18 l18)) H → va_D (va_A (mw g h0 b i a) s.heap.size) (mw g h0 b (va_up (va_up (va_up (va_up (va_up (va_up i 1 l1) 2 l2) 40 l40) 41 l41) 42 l42) 43 l43) (va_up (va_up (va_up (va_up (va_up (va_up (va_up (va_up (va_up (va_up (va_up (va_up a 4 l4) 5 l5) 6 l6) 7 l7) 8 l8) 9 l9) 10 l10) 11 l11) 14 l14) 15 l15) 17 l17) 18 l18)) → va_S (va_A (mw g h0 b i a) s.heap.size) s.heap H locs → lv_has ls 5 [(3, .int en), (0, .ref h0), (1, .int kk), (2, .int ck)] → W p l e (rm_X10_doesBlocks V dp j dl) s m [.ref h0, .int kk, .int ck].toArray below meth c H locs 0 0 (MQ below (Qg (fun (r : Option Value) (u : Int32 × Int32 × Int32 × Int32 × Int32 × Int32 × (Nat → Int32) × (Nat → Int32) × (Nat → Int32) × (Nat → Int32) × (Nat → Int32) × (Nat → Int32) × (Nat → Int32) × (Nat → Int32) × (Nat → Int32) × (Nat → Int32) × (Nat → Int32) × (Nat → Int32)) => match u with | (x1, x2, x40, x41, x42, x43, y4, y5, y6, y7, y8, y9, y10, y11, y14, y15, y17, y18) => (∃ z : Int32, r = some (.int z)) ∧ ((i 40).toInt ≤ x40.toInt ∧ x40.toInt ≤ (i 39).toInt)) (fun u t => QW dC dI (va_A (mw g h0 b i a) s.heap.size) ((fun (u : Int32 × Int32 × Int32 × Int32 × Int32 × Int32 × (Nat → Int32) × (Nat → Int32) × (Nat → Int32) × (Nat → Int32) × (Nat → Int32) × (Nat → Int32) × (Nat → Int32) × (Nat → Int32) × (Nat → Int32) × (Nat → Int32) × (Nat → Int32) × (Nat → Int32)) => match u with | (x1, x2, x40, x41, x42, x43, y4, y5, y6, y7, y8, y9, y10, y11, y14, y15, y17, y18) => mw g h0 b (va_up (va_up (va_up (va_up (va_up (va_up i 1 x1) 2 x2) 40 x40) 41 x41) 42 x42) 43 x43) (va_up (va_up (va_up (va_up (va_up (va_up (va_up (va_up (va_up (va_up (va_up (va_up a 4 y4) 5 y5) 6 y6) 7 y7) 8 y8) 9 y9) 10 y10) 11 y11) 14 y14) 15 y15) 17 y17) 18 y18)) u) [] t) (va_A (mw g h0 b i a) s.heap.size)) [.ref h0, .int kk, .int ck].toArray s 0 0 (va_A (mw g h0 b i a) s.heap.size)) (F0 m 91 ls []) := by
      intro n
      induction n with
      | zero => intro en l1 l2 l40 l41 l42 l43 l4 l5 l6 l7 l8 l9 l10 l11 l14 l15 l17 l18 H locs ls hm hLl hge hP hD hS hl; exact absurd hm.2 (by omega)
      | succ n ih =>
        intro en l1 l2 l40 l41 l42 l43 l4 l5 l6 l7 l8 l9 l10 l11 l14 l15 l17 l18 H locs ls hm hLl hge hP hD hS hl
        refine lv_iload_n hx hb dX10_doesBlocks_91 rfl (lv_at hl 0 rfl) ?_
        refine lv_if_ne (tgt := 137) hx hb dX10_doesBlocks_92 (by decide) (fun c_33 => ?_) (fun c_33 => ?_)
        · have nc_33 := ne_i c_33
          have lc_33 : (0 : Int32).toInt = 0 := by decide
          refine lv_iload_n hx hb dX10_doesBlocks_137 rfl (lv_at hl 0 rfl) ?_
          exact M_i hx hb hr hlocks (l1, l2, l40, l41, l42, l43, l4, l5, l6, l7, l8, l9, l10, l11, l14, l15, l17, l18) hP hD hK hS ⟨⟨_, rfl⟩, ⟨by omega, by omega⟩⟩ (by first | exact Nat.le_of_ble_eq_true rfl | (simp only [rm_X10_doesBlocks]; omega)) (by first | exact Nat.le_of_ble_eq_true rfl | (simp only [rm_X10_doesBlocks]; omega)) dX10_doesBlocks_138
        · have nc_33 := eq_i c_33
          have lc_33 : (0 : Int32).toInt = 0 := by decide
          refine lv_aload_n hx hb dX10_doesBlocks_95 rfl (lv_at hl 1 rfl) ?_
          refine M_V ⟨hx, hb, hml, hown, hts⟩ (m_X10_counts l dC dI sa g h0 b (va_up (va_up (va_up (va_up (va_up (va_up i 1 l1) 2 l2) 40 l40) 41 l41) 42 l42) 43 l43) (va_up (va_up (va_up (va_up (va_up (va_up (va_up (va_up (va_up (va_up (va_up (va_up a 4 l4) 5 l5) 6 l6) 7 l7) 8 l8) 9 l9) 10 l10) 11 l11) 14 l14) 15 l15) 17 l17) 18 l18)  _ (show l40.toInt ≤ (i 39).toInt from by omega)) (cwV 0 hts gX10_doesBlocks_X10_counts rfl rfl rfl (by decide +kernel) ⟨(by first | exact Nat.le_of_ble_eq_true rfl | (simp only [rm_X10_counts, rm_X10_doesBlocks]; omega)), (by first | exact Nat.le_of_ble_eq_true rfl | (simp only [rm_X10_counts, rm_X10_doesBlocks]; omega))⟩) hP hD hK hS hA hev rfl rfl rfl rfl hl.1 rfl (Nat.le_of_ble_eq_true rfl) dX10_doesBlocks_96 ⟨(by first | exact Nat.le_of_ble_eq_true rfl | (simp only [rm_X10_doesBlocks]; omega)), (by first | exact Nat.le_of_ble_eq_true rfl | (simp only [rm_X10_doesBlocks]; omega))⟩ (fun r u H locs hw hP hD hS => ?_)
          obtain ⟨x40_34, rfl⟩ : ∃ z, z = u := ⟨_, rfl⟩
          have hw : ((r = some (.int 0) ∧ (x40_34.toInt = l40.toInt)) ∨ (r = some (.int 1) ∧ (x40_34.toInt = l40.toInt + 1 ∧ x40_34.toInt ≤ (i 39).toInt))) ∧ (True) := hw
          obtain ⟨⟨rfl, hz2_36⟩ | ⟨rfl, hz2_36⟩, hw_35⟩ := hw
          · have hP : va_P (dC, dI) vwCl (mw g h0 b (va_up (va_up (va_up (va_up (va_up (va_up i 1 l1) 2 l2) 40 x40_34) 41 l41) 42 l42) 43 l43) (va_up (va_up (va_up (va_up (va_up (va_up (va_up (va_up (va_up (va_up (va_up (va_up a 4 l4) 5 l5) 6 l6) 7 l7) 8 l8) 9 l9) 10 l10) 11 l11) 14 l14) 15 l15) 17 l17) 18 l18)) _ := hP
            have hD : va_D _ (mw g h0 b (va_up (va_up (va_up (va_up (va_up (va_up i 1 l1) 2 l2) 40 x40_34) 41 l41) 42 l42) 43 l43) (va_up (va_up (va_up (va_up (va_up (va_up (va_up (va_up (va_up (va_up (va_up (va_up a 4 l4) 5 l5) 6 l6) 7 l7) 8 l8) 9 l9) 10 l10) 11 l11) 14 l14) 15 l15) 17 l17) 18 l18)) := hD
            refine W.eq (g2 := F0 m 99 ls [.int 0]) rfl ?_
            refine lv_if_ne (tgt := 106) hx hb dX10_doesBlocks_99 (by decide) (fun c_37 => absurd c_37 (by decide)) (fun _ => ?_)
            refine lv_sipush (v := 1000) hx hb dX10_doesBlocks_102 (by decide) ?_
            exact M_i hx hb hr hlocks (l1, l2, x40_34, l41, l42, l43, l4, l5, l6, l7, l8, l9, l10, l11, l14, l15, l17, l18) hP hD hK hS ⟨⟨_, rfl⟩, ⟨by omega, by omega⟩⟩ (by first | exact Nat.le_of_ble_eq_true rfl | (simp only [rm_X10_doesBlocks]; omega)) (by first | exact Nat.le_of_ble_eq_true rfl | (simp only [rm_X10_doesBlocks]; omega)) dX10_doesBlocks_105
          · have hP : va_P (dC, dI) vwCl (mw g h0 b (va_up (va_up (va_up (va_up (va_up (va_up i 1 l1) 2 l2) 40 x40_34) 41 l41) 42 l42) 43 l43) (va_up (va_up (va_up (va_up (va_up (va_up (va_up (va_up (va_up (va_up (va_up (va_up a 4 l4) 5 l5) 6 l6) 7 l7) 8 l8) 9 l9) 10 l10) 11 l11) 14 l14) 15 l15) 17 l17) 18 l18)) _ := hP
            have hD : va_D _ (mw g h0 b (va_up (va_up (va_up (va_up (va_up (va_up i 1 l1) 2 l2) 40 x40_34) 41 l41) 42 l42) 43 l43) (va_up (va_up (va_up (va_up (va_up (va_up (va_up (va_up (va_up (va_up (va_up (va_up a 4 l4) 5 l5) 6 l6) 7 l7) 8 l8) 9 l9) 10 l10) 11 l11) 14 l14) 15 l15) 17 l17) 18 l18)) := hD
            refine W.eq (g2 := F0 m 99 ls [.int 1]) rfl ?_
            refine lv_if_ne (tgt := 106) hx hb dX10_doesBlocks_99 (by decide) (fun _ => ?_) (fun c_38 => absurd c_38 (by decide))
            refine lv_aload_n hx hb dX10_doesBlocks_106 rfl (lv_at hl 1 rfl) ?_
            refine lv_iload_n hx hb dX10_doesBlocks_107 rfl (lv_at hl 3 rfl) ?_
            refine M_V ⟨hx, hb, hml, hown, hts⟩ (m_X10_shadeOf l dC dI sa g h0 b (va_up (va_up (va_up (va_up (va_up (va_up i 1 l1) 2 l2) 40 x40_34) 41 l41) 42 l42) 43 l43) (va_up (va_up (va_up (va_up (va_up (va_up (va_up (va_up (va_up (va_up (va_up (va_up a 4 l4) 5 l5) 6 l6) 7 l7) 8 l8) 9 l9) 10 l10) 11 l11) 14 l14) 15 l15) 17 l17) 18 l18) ck _ hc30 hwt) (cwV 1 hts gX10_doesBlocks_X10_shadeOf rfl rfl rfl (by decide +kernel) ⟨(by first | exact Nat.le_of_ble_eq_true rfl | (simp only [rm_X10_shadeOf, rm_X10_doesBlocks]; omega)), (by first | exact Nat.le_of_ble_eq_true rfl | (simp only [rm_X10_shadeOf, rm_X10_doesBlocks]; omega))⟩) hP hD hK hS hA hev rfl rfl rfl rfl hl.1 rfl (Nat.le_of_ble_eq_true rfl) dX10_doesBlocks_108 ⟨(by first | exact Nat.le_of_ble_eq_true rfl | (simp only [rm_X10_doesBlocks]; omega)), (by first | exact Nat.le_of_ble_eq_true rfl | (simp only [rm_X10_doesBlocks]; omega))⟩ (fun r u H locs hw hP hD hS => ?_)
            have hw : (∃ z : Int32, r = some (.int z)) ∧ (True) := hw
            obtain ⟨⟨z_40, rfl⟩, hw_39⟩ := hw
            have hP : va_P (dC, dI) vwCl (mw g h0 b (va_up (va_up (va_up (va_up (va_up (va_up i 1 l1) 2 l2) 40 x40_34) 41 l41) 42 l42) 43 l43) (va_up (va_up (va_up (va_up (va_up (va_up (va_up (va_up (va_up (va_up (va_up (va_up a 4 l4) 5 l5) 6 l6) 7 l7) 8 l8) 9 l9) 10 l10) 11 l11) 14 l14) 15 l15) 17 l17) 18 l18)) _ := hP
            have hD : va_D _ (mw g h0 b (va_up (va_up (va_up (va_up (va_up (va_up i 1 l1) 2 l2) 40 x40_34) 41 l41) 42 l42) 43 l43) (va_up (va_up (va_up (va_up (va_up (va_up (va_up (va_up (va_up (va_up (va_up (va_up a 4 l4) 5 l5) 6 l6) 7 l7) 8 l8) 9 l9) 10 l10) 11 l11) 14 l14) 15 l15) 17 l17) 18 l18)) := hD
            refine W.eq (g2 := F0 m 111 ls [.int z_40]) rfl ?_
            refine lv_aload_n hx hb dX10_doesBlocks_111 rfl (lv_at hl 1 rfl) ?_
            refine va_get (D := (dC, dI)) (ci := 10) (v := .ref (b 27)) (C := RX10) (T := TX10) (N := 51) hx hb hts inw_X10_doesBlocks_10 hown hK hP 0 rfl rfl 27 (by decide) (hts (.fieldLink RX10 63 "VatHouseModel" "one" "[I") (by decide +kernel)) (fun _ h9 => h9) rfl dX10_doesBlocks_112 ?_
            refine lv_iload_n hx hb dX10_doesBlocks_115 rfl (lv_at hl 2 rfl) ?_
            refine va_iald hx hb hK hP 17 16 rfl rfl (by assumption) dX10_doesBlocks_116 ?_
            refine lv_topi (fun z_41 ez_41 => ?_)
            have ez_41 : z_41 = (a 27) kk.toNatClampNeg := ez_41
            refine lv_icmp_lt (tgt := 122) hx hb dX10_doesBlocks_117 (by decide) (fun c_42 => ?_) (fun c_42 => ?_)
            · have nc_42 := lt_i c_42
              refine lv_aload_n hx hb dX10_doesBlocks_122 rfl (lv_at hl 1 rfl) ?_
              refine lv_aload_n hx hb dX10_doesBlocks_123 rfl (lv_at hl 1 rfl) ?_
              refine va_get (D := (dC, dI)) (ci := 10) (v := .ref (b 31)) (C := RX10) (T := TX10) (N := 51) hx hb hts inw_X10_doesBlocks_10 hown hK hP 0 rfl rfl 31 (by decide) (hts (.fieldLink RX10 75 "VatHouseModel" "inner" "[I") (by decide +kernel)) (fun _ h9 => h9) rfl dX10_doesBlocks_124 ?_
              refine lv_iload_n hx hb dX10_doesBlocks_127 rfl (lv_at hl 2 rfl) ?_
              refine va_iald hx hb hK hP 21 20 rfl rfl (by assumption) dX10_doesBlocks_128 ?_
              refine lv_topi (fun z_43 ez_43 => ?_)
              have ez_43 : z_43 = (a 31) kk.toNatClampNeg := ez_43
              refine lv_iload_n hx hb dX10_doesBlocks_129 rfl (lv_at hl 3 rfl) ?_
              refine M_V ⟨hx, hb, hml, hown, hts⟩ (IHR j1 (dl + 1) (by omega) hj1 (va_up (va_up (va_up (va_up (va_up (va_up i 1 l1) 2 l2) 40 x40_34) 41 l41) 42 l42) 43 l43) (va_up (va_up (va_up (va_up (va_up (va_up (va_up (va_up (va_up (va_up (va_up (va_up a 4 l4) 5 l5) 6 l6) 7 l7) 8 l8) 9 l9) 10 l10) 11 l11) 14 l14) 15 l15) 17 l17) 18 l18) z_43 ck _ hND (by rw [ez_43, hkq, ← hdq]; exact (hND q hVq).2.2.2.1) hc30 hwt (show x40_34.toInt ≤ (i 39).toInt from by omega)) (cwV 2 hts gX10_doesBlocks_X10_row rfl rfl rfl (by decide +kernel) ⟨(by first | exact Nat.le_of_ble_eq_true rfl | (simp only [rm_X10_row, rm_X10_doesBlocks]; omega)), (by first | exact Nat.le_of_ble_eq_true rfl | (simp only [rm_X10_row, rm_X10_doesBlocks]; omega))⟩) hP hD hK hS hA hev rfl rfl rfl rfl hl.1 rfl (Nat.le_of_ble_eq_true rfl) dX10_doesBlocks_130 ⟨(by first | exact Nat.le_of_ble_eq_true rfl | (simp only [rm_X10_doesBlocks]; omega)), (by first | exact Nat.le_of_ble_eq_true rfl | (simp only [rm_X10_doesBlocks]; omega))⟩ (fun r u H locs hw hP hD hS => ?_)
              obtain ⟨x1_44, x2_45, x40_46, x41_47, x42_48, x43_49, y4_50, y5_51, y6_52, y7_53, y8_54, y9_55, y10_56, y11_57, y14_58, y15_59, y17_60, y18_61⟩ := u
              have hw : (∃ z : Int32, r = some (.int z)) ∧ (x40_34.toInt ≤ x40_46.toInt ∧ x40_46.toInt ≤ (i 39).toInt) := hw
              obtain ⟨⟨z_63, rfl⟩, hw_62⟩ := hw
              have hP : va_P (dC, dI) vwCl (mw g h0 b (va_up (va_up (va_up (va_up (va_up (va_up i 1 x1_44) 2 x2_45) 40 x40_46) 41 x41_47) 42 x42_48) 43 x43_49) (va_up (va_up (va_up (va_up (va_up (va_up (va_up (va_up (va_up (va_up (va_up (va_up a 4 y4_50) 5 y5_51) 6 y6_52) 7 y7_53) 8 y8_54) 9 y9_55) 10 y10_56) 11 y11_57) 14 y14_58) 15 y15_59) 17 y17_60) 18 y18_61)) _ := hP
              have hD : va_D _ (mw g h0 b (va_up (va_up (va_up (va_up (va_up (va_up i 1 x1_44) 2 x2_45) 40 x40_46) 41 x41_47) 42 x42_48) 43 x43_49) (va_up (va_up (va_up (va_up (va_up (va_up (va_up (va_up (va_up (va_up (va_up (va_up a 4 y4_50) 5 y5_51) 6 y6_52) 7 y7_53) 8 y8_54) 9 y9_55) 10 y10_56) 11 y11_57) 14 y14_58) 15 y15_59) 17 y17_60) 18 y18_61)) := hD
              refine W.eq (g2 := F0 m 133 ls [.int z_63]) rfl ?_
              refine lv_istore_n (lv' := [(3, .int z_63), (0, .ref h0), (1, .int kk), (2, .int ck)]) hx hb dX10_doesBlocks_133 rfl hl (by decide) rfl (fun ls hl => ?_)
              refine lv_goto (tgt := 91) hx hb dX10_doesBlocks_134 (by decide) ?_
              exact ih z_63 x1_44 x2_45 x40_46 x41_47 x42_48 x43_49 y4_50 y5_51 y6_52 y7_53 y8_54 y9_55 y10_56 y11_57 y14_58 y15_59 y17_60 y18_61 _ _ _ (⟨fun _ => by have := hm.1 c_33; omega, by have := hm.1 c_33; omega⟩) (by omega) (by omega) hP hD hS (lv_sub hl [0, 1, 2, 3] rfl)
            · have nc_42 := nlt_i c_42
              refine lv_iconst (v := 0) hx hb dX10_doesBlocks_120 (by decide) ?_
              exact M_i hx hb hr hlocks (l1, l2, x40_34, l41, l42, l43, l4, l5, l6, l7, l8, l9, l10, l11, l14, l15, l17, l18) hP hD hK hS ⟨⟨_, rfl⟩, ⟨by omega, by omega⟩⟩ (by first | exact Nat.le_of_ble_eq_true rfl | (simp only [rm_X10_doesBlocks]; omega)) (by first | exact Nat.le_of_ble_eq_true rfl | (simp only [rm_X10_doesBlocks]; omega)) dX10_doesBlocks_121
    exact lp (((i 39).toInt - (i 40).toInt).toNat + 2) (0 : Int32) (i 1) (i 2) (i 40) (i 41) (i 42) (i 43) (a 4) (a 5) (a 6) (a 7) (a 8) (a 9) (a 10) (a 11) (a 14) (a 15) (a 17) (a 18) _ _ _ (⟨fun _ => by omega, by omega⟩) (by omega) (by omega) hP hD hS (lv_sub hl [0, 1, 2, 3] rfl)
  by_cases c_64 : z_1 = 9
  · refine lv_tableIn (tgt := 139) hx hb dX10_doesBlocks_8 (by rw [c_64]; decide) (by rw [c_64]; decide) (by rw [c_64]; rfl) (by decide) ?_
    refine lv_aload_n hx hb dX10_doesBlocks_139 rfl (lv_at hl 1 rfl) ?_
    refine lv_aload_n hx hb dX10_doesBlocks_140 rfl (lv_at hl 1 rfl) ?_
    refine lv_iload_n hx hb dX10_doesBlocks_141 rfl (lv_at hl 2 rfl) ?_
    refine lv_iload_n hx hb dX10_doesBlocks_142 rfl (lv_at hl 3 rfl) ?_
    refine M_V ⟨hx, hb, hml, hown, hts⟩ (m_X10_holds l dC dI sa g h0 b i a kk ck _ hk (ND.one hND hVq hkq rfl ez_1 (Or.inr (Or.inr (Or.inr c_64)))) hc30 hwt) (cwV 2 hts gX10_doesBlocks_X10_holds rfl rfl rfl (by decide +kernel) ⟨(by first | exact Nat.le_of_ble_eq_true rfl | (simp only [rm_X10_holds, rm_X10_doesBlocks]; omega)), (by first | exact Nat.le_of_ble_eq_true rfl | (simp only [rm_X10_holds, rm_X10_doesBlocks]; omega))⟩) hP hD hK hS hA hev rfl rfl rfl rfl hl.1 rfl (Nat.le_of_ble_eq_true rfl) dX10_doesBlocks_143 ⟨(by first | exact Nat.le_of_ble_eq_true rfl | (simp only [rm_X10_doesBlocks]; omega)), (by first | exact Nat.le_of_ble_eq_true rfl | (simp only [rm_X10_doesBlocks]; omega))⟩ (fun r u H locs hw hP hD hS => ?_)
    have hw : (∃ z : Int32, r = some (.int z) ∧ (z = 0 ∨ z = 1)) ∧ (True) := hw
    obtain ⟨⟨z_66, rfl, hz_z_66⟩, hw_65⟩ := hw
    have hP : va_P (dC, dI) vwCl (mw g h0 b i a) _ := hP
    have hD : va_D _ (mw g h0 b i a) := hD
    refine W.eq (g2 := F0 m 146 ls [.int z_66, .ref h0]) rfl ?_
    refine lv_if_eq (tgt := 158) hx hb dX10_doesBlocks_146 (by decide) (fun c_67 => ?_) (fun c_67 => ?_)
    · have nc_67 := eq_i c_67
      have lc_67 : (0 : Int32).toInt = 0 := by decide
      refine lv_aload_n hx hb dX10_doesBlocks_158 rfl (lv_at hl 1 rfl) ?_
      refine va_get (D := (dC, dI)) (ci := 10) (v := .ref (b 32)) (C := RX10) (T := TX10) (N := 51) hx hb hts inw_X10_doesBlocks_10 hown hK hP 0 rfl rfl 32 (by decide) (hts (.fieldLink RX10 78 "VatHouseModel" "other" "[I") (by decide +kernel)) (fun _ h9 => h9) rfl dX10_doesBlocks_159 ?_
      refine lv_iload_n hx hb dX10_doesBlocks_162 rfl (lv_at hl 2 rfl) ?_
      refine va_iald hx hb hK hP 22 21 rfl rfl (by assumption) dX10_doesBlocks_163 ?_
      refine lv_topi (fun z_68 ez_68 => ?_)
      have ez_68 : z_68 = (a 32) kk.toNatClampNeg := ez_68
      refine lv_iload_n hx hb dX10_doesBlocks_164 rfl (lv_at hl 3 rfl) ?_
      refine M_V ⟨hx, hb, hml, hown, hts⟩ (IHR j1 (dl + 1) (by omega) hj1 i a z_68 ck _ hND (by rw [ez_68, hkq, ← hdq]; exact (hND q hVq).2.2.2.2.1) hc30 hwt (show (i 40).toInt ≤ (i 39).toInt from by omega)) (cwV 2 hts gX10_doesBlocks_X10_row rfl rfl rfl (by decide +kernel) ⟨(by first | exact Nat.le_of_ble_eq_true rfl | (simp only [rm_X10_row, rm_X10_doesBlocks]; omega)), (by first | exact Nat.le_of_ble_eq_true rfl | (simp only [rm_X10_row, rm_X10_doesBlocks]; omega))⟩) hP hD hK hS hA hev rfl rfl rfl rfl hl.1 rfl (Nat.le_of_ble_eq_true rfl) dX10_doesBlocks_165 ⟨(by first | exact Nat.le_of_ble_eq_true rfl | (simp only [rm_X10_doesBlocks]; omega)), (by first | exact Nat.le_of_ble_eq_true rfl | (simp only [rm_X10_doesBlocks]; omega))⟩ (fun r u H locs hw hP hD hS => ?_)
      obtain ⟨x1_69, x2_70, x40_71, x41_72, x42_73, x43_74, y4_75, y5_76, y6_77, y7_78, y8_79, y9_80, y10_81, y11_82, y14_83, y15_84, y17_85, y18_86⟩ := u
      have hw : (∃ z : Int32, r = some (.int z)) ∧ ((i 40).toInt ≤ x40_71.toInt ∧ x40_71.toInt ≤ (i 39).toInt) := hw
      obtain ⟨⟨z_88, rfl⟩, hw_87⟩ := hw
      have hP : va_P (dC, dI) vwCl (mw g h0 b (va_up (va_up (va_up (va_up (va_up (va_up i 1 x1_69) 2 x2_70) 40 x40_71) 41 x41_72) 42 x42_73) 43 x43_74) (va_up (va_up (va_up (va_up (va_up (va_up (va_up (va_up (va_up (va_up (va_up (va_up a 4 y4_75) 5 y5_76) 6 y6_77) 7 y7_78) 8 y8_79) 9 y9_80) 10 y10_81) 11 y11_82) 14 y14_83) 15 y15_84) 17 y17_85) 18 y18_86)) _ := hP
      have hD : va_D _ (mw g h0 b (va_up (va_up (va_up (va_up (va_up (va_up i 1 x1_69) 2 x2_70) 40 x40_71) 41 x41_72) 42 x42_73) 43 x43_74) (va_up (va_up (va_up (va_up (va_up (va_up (va_up (va_up (va_up (va_up (va_up (va_up a 4 y4_75) 5 y5_76) 6 y6_77) 7 y7_78) 8 y8_79) 9 y9_80) 10 y10_81) 11 y11_82) 14 y14_83) 15 y15_84) 17 y17_85) 18 y18_86)) := hD
      refine W.eq (g2 := F0 m 168 ls [.int z_88]) rfl ?_
      exact M_i hx hb hr hlocks (x1_69, x2_70, x40_71, x41_72, x42_73, x43_74, y4_75, y5_76, y6_77, y7_78, y8_79, y9_80, y10_81, y11_82, y14_83, y15_84, y17_85, y18_86) hP hD hK hS ⟨⟨_, rfl⟩, ⟨by omega, by omega⟩⟩ (by first | exact Nat.le_of_ble_eq_true rfl | (simp only [rm_X10_doesBlocks]; omega)) (by first | exact Nat.le_of_ble_eq_true rfl | (simp only [rm_X10_doesBlocks]; omega)) dX10_doesBlocks_168
    · have nc_67 := ne_i c_67
      have lc_67 : (0 : Int32).toInt = 0 := by decide
      refine lv_aload_n hx hb dX10_doesBlocks_149 rfl (lv_at hl 1 rfl) ?_
      refine va_get (D := (dC, dI)) (ci := 10) (v := .ref (b 31)) (C := RX10) (T := TX10) (N := 51) hx hb hts inw_X10_doesBlocks_10 hown hK hP 0 rfl rfl 31 (by decide) (hts (.fieldLink RX10 75 "VatHouseModel" "inner" "[I") (by decide +kernel)) (fun _ h9 => h9) rfl dX10_doesBlocks_150 ?_
      refine lv_iload_n hx hb dX10_doesBlocks_153 rfl (lv_at hl 2 rfl) ?_
      refine va_iald hx hb hK hP 21 20 rfl rfl (by assumption) dX10_doesBlocks_154 ?_
      refine lv_topi (fun z_89 ez_89 => ?_)
      have ez_89 : z_89 = (a 31) kk.toNatClampNeg := ez_89
      refine lv_goto (tgt := 164) hx hb dX10_doesBlocks_155 (by decide) ?_
      refine lv_iload_n hx hb dX10_doesBlocks_164 rfl (lv_at hl 3 rfl) ?_
      refine M_V ⟨hx, hb, hml, hown, hts⟩ (IHR j1 (dl + 1) (by omega) hj1 i a z_89 ck _ hND (by rw [ez_89, hkq, ← hdq]; exact (hND q hVq).2.2.2.1) hc30 hwt (show (i 40).toInt ≤ (i 39).toInt from by omega)) (cwV 2 hts gX10_doesBlocks_X10_row rfl rfl rfl (by decide +kernel) ⟨(by first | exact Nat.le_of_ble_eq_true rfl | (simp only [rm_X10_row, rm_X10_doesBlocks]; omega)), (by first | exact Nat.le_of_ble_eq_true rfl | (simp only [rm_X10_row, rm_X10_doesBlocks]; omega))⟩) hP hD hK hS hA hev rfl rfl rfl rfl hl.1 rfl (Nat.le_of_ble_eq_true rfl) dX10_doesBlocks_165 ⟨(by first | exact Nat.le_of_ble_eq_true rfl | (simp only [rm_X10_doesBlocks]; omega)), (by first | exact Nat.le_of_ble_eq_true rfl | (simp only [rm_X10_doesBlocks]; omega))⟩ (fun r u H locs hw hP hD hS => ?_)
      obtain ⟨x1_90, x2_91, x40_92, x41_93, x42_94, x43_95, y4_96, y5_97, y6_98, y7_99, y8_100, y9_101, y10_102, y11_103, y14_104, y15_105, y17_106, y18_107⟩ := u
      have hw : (∃ z : Int32, r = some (.int z)) ∧ ((i 40).toInt ≤ x40_92.toInt ∧ x40_92.toInt ≤ (i 39).toInt) := hw
      obtain ⟨⟨z_109, rfl⟩, hw_108⟩ := hw
      have hP : va_P (dC, dI) vwCl (mw g h0 b (va_up (va_up (va_up (va_up (va_up (va_up i 1 x1_90) 2 x2_91) 40 x40_92) 41 x41_93) 42 x42_94) 43 x43_95) (va_up (va_up (va_up (va_up (va_up (va_up (va_up (va_up (va_up (va_up (va_up (va_up a 4 y4_96) 5 y5_97) 6 y6_98) 7 y7_99) 8 y8_100) 9 y9_101) 10 y10_102) 11 y11_103) 14 y14_104) 15 y15_105) 17 y17_106) 18 y18_107)) _ := hP
      have hD : va_D _ (mw g h0 b (va_up (va_up (va_up (va_up (va_up (va_up i 1 x1_90) 2 x2_91) 40 x40_92) 41 x41_93) 42 x42_94) 43 x43_95) (va_up (va_up (va_up (va_up (va_up (va_up (va_up (va_up (va_up (va_up (va_up (va_up a 4 y4_96) 5 y5_97) 6 y6_98) 7 y7_99) 8 y8_100) 9 y9_101) 10 y10_102) 11 y11_103) 14 y14_104) 15 y15_105) 17 y17_106) 18 y18_107)) := hD
      refine W.eq (g2 := F0 m 168 ls [.int z_109]) rfl ?_
      exact M_i hx hb hr hlocks (x1_90, x2_91, x40_92, x41_93, x42_94, x43_95, y4_96, y5_97, y6_98, y7_99, y8_100, y9_101, y10_102, y11_103, y14_104, y15_105, y17_106, y18_107) hP hD hK hS ⟨⟨_, rfl⟩, ⟨by omega, by omega⟩⟩ (by first | exact Nat.le_of_ble_eq_true rfl | (simp only [rm_X10_doesBlocks]; omega)) (by first | exact Nat.le_of_ble_eq_true rfl | (simp only [rm_X10_doesBlocks]; omega)) dX10_doesBlocks_168
  by_cases c_110 : z_1 = 10
  · refine lv_tableIn (tgt := 169) hx hb dX10_doesBlocks_8 (by rw [c_110]; decide) (by rw [c_110]; decide) (by rw [c_110]; rfl) (by decide) ?_
    refine lv_aload_n hx hb dX10_doesBlocks_169 rfl (lv_at hl 1 rfl) ?_
    refine lv_aload_n hx hb dX10_doesBlocks_170 rfl (lv_at hl 1 rfl) ?_
    refine va_get (D := (dC, dI)) (ci := 10) (v := .ref (b 31)) (C := RX10) (T := TX10) (N := 51) hx hb hts inw_X10_doesBlocks_10 hown hK hP 0 rfl rfl 31 (by decide) (hts (.fieldLink RX10 75 "VatHouseModel" "inner" "[I") (by decide +kernel)) (fun _ h9 => h9) rfl dX10_doesBlocks_171 ?_
    refine lv_iload_n hx hb dX10_doesBlocks_174 rfl (lv_at hl 2 rfl) ?_
    refine va_iald hx hb hK hP 21 20 rfl rfl (by assumption) dX10_doesBlocks_175 ?_
    refine lv_topi (fun z_111 ez_111 => ?_)
    have ez_111 : z_111 = (a 31) kk.toNatClampNeg := ez_111
    refine lv_iload_n hx hb dX10_doesBlocks_176 rfl (lv_at hl 3 rfl) ?_
    refine M_V ⟨hx, hb, hml, hown, hts⟩ (IHR j1 (dl + 1) (by omega) hj1 i a z_111 ck _ hND (by rw [ez_111, hkq, ← hdq]; exact (hND q hVq).2.2.2.1) hc30 hwt (show (i 40).toInt ≤ (i 39).toInt from by omega)) (cwV 2 hts gX10_doesBlocks_X10_row rfl rfl rfl (by decide +kernel) ⟨(by first | exact Nat.le_of_ble_eq_true rfl | (simp only [rm_X10_row, rm_X10_doesBlocks]; omega)), (by first | exact Nat.le_of_ble_eq_true rfl | (simp only [rm_X10_row, rm_X10_doesBlocks]; omega))⟩) hP hD hK hS hA hev rfl rfl rfl rfl hl.1 rfl (Nat.le_of_ble_eq_true rfl) dX10_doesBlocks_177 ⟨(by first | exact Nat.le_of_ble_eq_true rfl | (simp only [rm_X10_doesBlocks]; omega)), (by first | exact Nat.le_of_ble_eq_true rfl | (simp only [rm_X10_doesBlocks]; omega))⟩ (fun r u H locs hw hP hD hS => ?_)
    obtain ⟨x1_112, x2_113, x40_114, x41_115, x42_116, x43_117, y4_118, y5_119, y6_120, y7_121, y8_122, y9_123, y10_124, y11_125, y14_126, y15_127, y17_128, y18_129⟩ := u
    have hw : (∃ z : Int32, r = some (.int z)) ∧ ((i 40).toInt ≤ x40_114.toInt ∧ x40_114.toInt ≤ (i 39).toInt) := hw
    obtain ⟨⟨z_131, rfl⟩, hw_130⟩ := hw
    have hP : va_P (dC, dI) vwCl (mw g h0 b (va_up (va_up (va_up (va_up (va_up (va_up i 1 x1_112) 2 x2_113) 40 x40_114) 41 x41_115) 42 x42_116) 43 x43_117) (va_up (va_up (va_up (va_up (va_up (va_up (va_up (va_up (va_up (va_up (va_up (va_up a 4 y4_118) 5 y5_119) 6 y6_120) 7 y7_121) 8 y8_122) 9 y9_123) 10 y10_124) 11 y11_125) 14 y14_126) 15 y15_127) 17 y17_128) 18 y18_129)) _ := hP
    have hD : va_D _ (mw g h0 b (va_up (va_up (va_up (va_up (va_up (va_up i 1 x1_112) 2 x2_113) 40 x40_114) 41 x41_115) 42 x42_116) 43 x43_117) (va_up (va_up (va_up (va_up (va_up (va_up (va_up (va_up (va_up (va_up (va_up (va_up a 4 y4_118) 5 y5_119) 6 y6_120) 7 y7_121) 8 y8_122) 9 y9_123) 10 y10_124) 11 y11_125) 14 y14_126) 15 y15_127) 17 y17_128) 18 y18_129)) := hD
    refine W.eq (g2 := F0 m 180 ls [.int z_131]) rfl ?_
    refine lv_istore_n (lv' := [(3, .int z_131), (0, .ref h0), (1, .int kk), (2, .int ck)]) hx hb dX10_doesBlocks_180 rfl hl (by decide) rfl (fun ls hl => ?_)
    refine lv_iload_n hx hb dX10_doesBlocks_181 rfl (lv_at hl 0 rfl) ?_
    refine lv_if_eq (tgt := 192) hx hb dX10_doesBlocks_182 (by decide) (fun c_132 => ?_) (fun c_132 => ?_)
    · have nc_132 := eq_i c_132
      have lc_132 : (0 : Int32).toInt = 0 := by decide
      refine lv_iload_n hx hb dX10_doesBlocks_192 rfl (lv_at hl 0 rfl) ?_
      refine lv_goto (tgt := 207) hx hb dX10_doesBlocks_193 (by decide) ?_
      exact M_i hx hb hr hlocks (x1_112, x2_113, x40_114, x41_115, x42_116, x43_117, y4_118, y5_119, y6_120, y7_121, y8_122, y9_123, y10_124, y11_125, y14_126, y15_127, y17_128, y18_129) hP hD hK hS ⟨⟨_, rfl⟩, ⟨by omega, by omega⟩⟩ (by first | exact Nat.le_of_ble_eq_true rfl | (simp only [rm_X10_doesBlocks]; omega)) (by first | exact Nat.le_of_ble_eq_true rfl | (simp only [rm_X10_doesBlocks]; omega)) dX10_doesBlocks_207
    · have nc_132 := ne_i c_132
      have lc_132 : (0 : Int32).toInt = 0 := by decide
      refine lv_iload_n hx hb dX10_doesBlocks_185 rfl (lv_at hl 0 rfl) ?_
      refine lv_sipush (v := 1000) hx hb dX10_doesBlocks_186 (by decide) ?_
      refine lv_icmp_ne (tgt := 196) hx hb dX10_doesBlocks_189 (by decide) (fun c_133 => ?_) (fun c_133 => ?_)
      · have nc_133 := ne_i c_133
        have lc_133 : (1000 : Int32).toInt = 1000 := by decide
        refine lv_aload_n hx hb dX10_doesBlocks_196 rfl (lv_at hl 1 rfl) ?_
        refine lv_aload_n hx hb dX10_doesBlocks_197 rfl (lv_at hl 1 rfl) ?_
        refine va_get (D := (dC, dI)) (ci := 10) (v := .ref (b 32)) (C := RX10) (T := TX10) (N := 51) hx hb hts inw_X10_doesBlocks_10 hown hK hP 0 rfl rfl 32 (by decide) (hts (.fieldLink RX10 78 "VatHouseModel" "other" "[I") (by decide +kernel)) (fun _ h9 => h9) rfl dX10_doesBlocks_198 ?_
        refine lv_iload_n hx hb dX10_doesBlocks_201 rfl (lv_at hl 2 rfl) ?_
        refine va_iald hx hb hK hP 22 21 rfl rfl (by assumption) dX10_doesBlocks_202 ?_
        refine lv_topi (fun z_134 ez_134 => ?_)
        have ez_134 : z_134 = (a 32) kk.toNatClampNeg := ez_134
        refine lv_iload_n hx hb dX10_doesBlocks_203 rfl (lv_at hl 3 rfl) ?_
        refine M_V ⟨hx, hb, hml, hown, hts⟩ (IHR j1 (dl + 1) (by omega) hj1 (va_up (va_up (va_up (va_up (va_up (va_up i 1 x1_112) 2 x2_113) 40 x40_114) 41 x41_115) 42 x42_116) 43 x43_117) (va_up (va_up (va_up (va_up (va_up (va_up (va_up (va_up (va_up (va_up (va_up (va_up a 4 y4_118) 5 y5_119) 6 y6_120) 7 y7_121) 8 y8_122) 9 y9_123) 10 y10_124) 11 y11_125) 14 y14_126) 15 y15_127) 17 y17_128) 18 y18_129) z_134 ck _ hND (by rw [ez_134, hkq, ← hdq]; exact (hND q hVq).2.2.2.2.1) hc30 hwt (show x40_114.toInt ≤ (i 39).toInt from by omega)) (cwV 2 hts gX10_doesBlocks_X10_row rfl rfl rfl (by decide +kernel) ⟨(by first | exact Nat.le_of_ble_eq_true rfl | (simp only [rm_X10_row, rm_X10_doesBlocks]; omega)), (by first | exact Nat.le_of_ble_eq_true rfl | (simp only [rm_X10_row, rm_X10_doesBlocks]; omega))⟩) hP hD hK hS hA hev rfl rfl rfl rfl hl.1 rfl (Nat.le_of_ble_eq_true rfl) dX10_doesBlocks_204 ⟨(by first | exact Nat.le_of_ble_eq_true rfl | (simp only [rm_X10_doesBlocks]; omega)), (by first | exact Nat.le_of_ble_eq_true rfl | (simp only [rm_X10_doesBlocks]; omega))⟩ (fun r u H locs hw hP hD hS => ?_)
        obtain ⟨x1_135, x2_136, x40_137, x41_138, x42_139, x43_140, y4_141, y5_142, y6_143, y7_144, y8_145, y9_146, y10_147, y11_148, y14_149, y15_150, y17_151, y18_152⟩ := u
        have hw : (∃ z : Int32, r = some (.int z)) ∧ (x40_114.toInt ≤ x40_137.toInt ∧ x40_137.toInt ≤ (i 39).toInt) := hw
        obtain ⟨⟨z_154, rfl⟩, hw_153⟩ := hw
        have hP : va_P (dC, dI) vwCl (mw g h0 b (va_up (va_up (va_up (va_up (va_up (va_up i 1 x1_135) 2 x2_136) 40 x40_137) 41 x41_138) 42 x42_139) 43 x43_140) (va_up (va_up (va_up (va_up (va_up (va_up (va_up (va_up (va_up (va_up (va_up (va_up a 4 y4_141) 5 y5_142) 6 y6_143) 7 y7_144) 8 y8_145) 9 y9_146) 10 y10_147) 11 y11_148) 14 y14_149) 15 y15_150) 17 y17_151) 18 y18_152)) _ := hP
        have hD : va_D _ (mw g h0 b (va_up (va_up (va_up (va_up (va_up (va_up i 1 x1_135) 2 x2_136) 40 x40_137) 41 x41_138) 42 x42_139) 43 x43_140) (va_up (va_up (va_up (va_up (va_up (va_up (va_up (va_up (va_up (va_up (va_up (va_up a 4 y4_141) 5 y5_142) 6 y6_143) 7 y7_144) 8 y8_145) 9 y9_146) 10 y10_147) 11 y11_148) 14 y14_149) 15 y15_150) 17 y17_151) 18 y18_152)) := hD
        refine W.eq (g2 := F0 m 207 ls [.int z_154]) rfl ?_
        exact M_i hx hb hr hlocks (x1_135, x2_136, x40_137, x41_138, x42_139, x43_140, y4_141, y5_142, y6_143, y7_144, y8_145, y9_146, y10_147, y11_148, y14_149, y15_150, y17_151, y18_152) hP hD hK hS ⟨⟨_, rfl⟩, ⟨by omega, by omega⟩⟩ (by first | exact Nat.le_of_ble_eq_true rfl | (simp only [rm_X10_doesBlocks]; omega)) (by first | exact Nat.le_of_ble_eq_true rfl | (simp only [rm_X10_doesBlocks]; omega)) dX10_doesBlocks_207
      · have nc_133 := eq_i c_133
        have lc_133 : (1000 : Int32).toInt = 1000 := by decide
        refine lv_iload_n hx hb dX10_doesBlocks_192 rfl (lv_at hl 0 rfl) ?_
        refine lv_goto (tgt := 207) hx hb dX10_doesBlocks_193 (by decide) ?_
        exact M_i hx hb hr hlocks (x1_112, x2_113, x40_114, x41_115, x42_116, x43_117, y4_118, y5_119, y6_120, y7_121, y8_122, y9_123, y10_124, y11_125, y14_126, y15_127, y17_128, y18_129) hP hD hK hS ⟨⟨_, rfl⟩, ⟨by omega, by omega⟩⟩ (by first | exact Nat.le_of_ble_eq_true rfl | (simp only [rm_X10_doesBlocks]; omega)) (by first | exact Nat.le_of_ble_eq_true rfl | (simp only [rm_X10_doesBlocks]; omega)) dX10_doesBlocks_207
  refine lv_tableOut (tgt := 208) hx hb dX10_doesBlocks_8 (tab_out_7_10 c_2 c_32 c_64 c_110) (by decide) ?_
  refine lv_aload_n hx hb dX10_doesBlocks_208 rfl (lv_at hl 1 rfl) ?_
  refine lv_aload_n hx hb dX10_doesBlocks_209 rfl (lv_at hl 1 rfl) ?_
  refine va_get (D := (dC, dI)) (ci := 10) (v := .ref (b 31)) (C := RX10) (T := TX10) (N := 51) hx hb hts inw_X10_doesBlocks_10 hown hK hP 0 rfl rfl 31 (by decide) (hts (.fieldLink RX10 75 "VatHouseModel" "inner" "[I") (by decide +kernel)) (fun _ h9 => h9) rfl dX10_doesBlocks_210 ?_
  refine lv_iload_n hx hb dX10_doesBlocks_213 rfl (lv_at hl 2 rfl) ?_
  refine va_iald hx hb hK hP 21 20 rfl rfl (by assumption) dX10_doesBlocks_214 ?_
  refine lv_topi (fun z_155 ez_155 => ?_)
  have ez_155 : z_155 = (a 31) kk.toNatClampNeg := ez_155
  refine lv_iload_n hx hb dX10_doesBlocks_215 rfl (lv_at hl 3 rfl) ?_
  refine M_V ⟨hx, hb, hml, hown, hts⟩ (IHR j1 (dl + 1) (by omega) hj1 i a z_155 ck _ hND (by rw [ez_155, hkq, ← hdq]; exact (hND q hVq).2.2.2.1) hc30 hwt (show (i 40).toInt ≤ (i 39).toInt from by omega)) (cwV 2 hts gX10_doesBlocks_X10_row rfl rfl rfl (by decide +kernel) ⟨(by first | exact Nat.le_of_ble_eq_true rfl | (simp only [rm_X10_row, rm_X10_doesBlocks]; omega)), (by first | exact Nat.le_of_ble_eq_true rfl | (simp only [rm_X10_row, rm_X10_doesBlocks]; omega))⟩) hP hD hK hS hA hev rfl rfl rfl rfl hl.1 rfl (Nat.le_of_ble_eq_true rfl) dX10_doesBlocks_216 ⟨(by first | exact Nat.le_of_ble_eq_true rfl | (simp only [rm_X10_doesBlocks]; omega)), (by first | exact Nat.le_of_ble_eq_true rfl | (simp only [rm_X10_doesBlocks]; omega))⟩ (fun r u H locs hw hP hD hS => ?_)
  obtain ⟨x1_156, x2_157, x40_158, x41_159, x42_160, x43_161, y4_162, y5_163, y6_164, y7_165, y8_166, y9_167, y10_168, y11_169, y14_170, y15_171, y17_172, y18_173⟩ := u
  have hw : (∃ z : Int32, r = some (.int z)) ∧ ((i 40).toInt ≤ x40_158.toInt ∧ x40_158.toInt ≤ (i 39).toInt) := hw
  obtain ⟨⟨z_175, rfl⟩, hw_174⟩ := hw
  have hP : va_P (dC, dI) vwCl (mw g h0 b (va_up (va_up (va_up (va_up (va_up (va_up i 1 x1_156) 2 x2_157) 40 x40_158) 41 x41_159) 42 x42_160) 43 x43_161) (va_up (va_up (va_up (va_up (va_up (va_up (va_up (va_up (va_up (va_up (va_up (va_up a 4 y4_162) 5 y5_163) 6 y6_164) 7 y7_165) 8 y8_166) 9 y9_167) 10 y10_168) 11 y11_169) 14 y14_170) 15 y15_171) 17 y17_172) 18 y18_173)) _ := hP
  have hD : va_D _ (mw g h0 b (va_up (va_up (va_up (va_up (va_up (va_up i 1 x1_156) 2 x2_157) 40 x40_158) 41 x41_159) 42 x42_160) 43 x43_161) (va_up (va_up (va_up (va_up (va_up (va_up (va_up (va_up (va_up (va_up (va_up (va_up a 4 y4_162) 5 y5_163) 6 y6_164) 7 y7_165) 8 y8_166) 9 y9_167) 10 y10_168) 11 y11_169) 14 y14_170) 15 y15_171) 17 y17_172) 18 y18_173)) := hD
  refine W.eq (g2 := F0 m 219 ls [.int z_175]) rfl ?_
  refine lv_istore_n (lv' := [(3, .int z_175), (0, .ref h0), (1, .int kk), (2, .int ck)]) hx hb dX10_doesBlocks_219 rfl hl (by decide) rfl (fun ls hl => ?_)
  refine lv_iload_n hx hb dX10_doesBlocks_220 rfl (lv_at hl 0 rfl) ?_
  refine lv_sipush (v := 1000) hx hb dX10_doesBlocks_221 (by decide) ?_
  refine lv_icmp_ne (tgt := 229) hx hb dX10_doesBlocks_224 (by decide) (fun c_176 => ?_) (fun c_176 => ?_)
  · have nc_176 := ne_i c_176
    have lc_176 : (1000 : Int32).toInt = 1000 := by decide
    refine lv_aload_n hx hb dX10_doesBlocks_229 rfl (lv_at hl 1 rfl) ?_
    refine lv_aload_n hx hb dX10_doesBlocks_230 rfl (lv_at hl 1 rfl) ?_
    refine va_get (D := (dC, dI)) (ci := 10) (v := .ref (b 32)) (C := RX10) (T := TX10) (N := 51) hx hb hts inw_X10_doesBlocks_10 hown hK hP 0 rfl rfl 32 (by decide) (hts (.fieldLink RX10 78 "VatHouseModel" "other" "[I") (by decide +kernel)) (fun _ h9 => h9) rfl dX10_doesBlocks_231 ?_
    refine lv_iload_n hx hb dX10_doesBlocks_234 rfl (lv_at hl 2 rfl) ?_
    refine va_iald hx hb hK hP 22 21 rfl rfl (by assumption) dX10_doesBlocks_235 ?_
    refine lv_topi (fun z_177 ez_177 => ?_)
    have ez_177 : z_177 = (a 32) kk.toNatClampNeg := ez_177
    refine lv_iload_n hx hb dX10_doesBlocks_236 rfl (lv_at hl 3 rfl) ?_
    refine M_V ⟨hx, hb, hml, hown, hts⟩ (IHR j1 (dl + 1) (by omega) hj1 (va_up (va_up (va_up (va_up (va_up (va_up i 1 x1_156) 2 x2_157) 40 x40_158) 41 x41_159) 42 x42_160) 43 x43_161) (va_up (va_up (va_up (va_up (va_up (va_up (va_up (va_up (va_up (va_up (va_up (va_up a 4 y4_162) 5 y5_163) 6 y6_164) 7 y7_165) 8 y8_166) 9 y9_167) 10 y10_168) 11 y11_169) 14 y14_170) 15 y15_171) 17 y17_172) 18 y18_173) z_177 ck _ hND (by rw [ez_177, hkq, ← hdq]; exact (hND q hVq).2.2.2.2.1) hc30 hwt (show x40_158.toInt ≤ (i 39).toInt from by omega)) (cwV 2 hts gX10_doesBlocks_X10_row rfl rfl rfl (by decide +kernel) ⟨(by first | exact Nat.le_of_ble_eq_true rfl | (simp only [rm_X10_row, rm_X10_doesBlocks]; omega)), (by first | exact Nat.le_of_ble_eq_true rfl | (simp only [rm_X10_row, rm_X10_doesBlocks]; omega))⟩) hP hD hK hS hA hev rfl rfl rfl rfl hl.1 rfl (Nat.le_of_ble_eq_true rfl) dX10_doesBlocks_237 ⟨(by first | exact Nat.le_of_ble_eq_true rfl | (simp only [rm_X10_doesBlocks]; omega)), (by first | exact Nat.le_of_ble_eq_true rfl | (simp only [rm_X10_doesBlocks]; omega))⟩ (fun r u H locs hw hP hD hS => ?_)
    obtain ⟨x1_178, x2_179, x40_180, x41_181, x42_182, x43_183, y4_184, y5_185, y6_186, y7_187, y8_188, y9_189, y10_190, y11_191, y14_192, y15_193, y17_194, y18_195⟩ := u
    have hw : (∃ z : Int32, r = some (.int z)) ∧ (x40_158.toInt ≤ x40_180.toInt ∧ x40_180.toInt ≤ (i 39).toInt) := hw
    obtain ⟨⟨z_197, rfl⟩, hw_196⟩ := hw
    have hP : va_P (dC, dI) vwCl (mw g h0 b (va_up (va_up (va_up (va_up (va_up (va_up i 1 x1_178) 2 x2_179) 40 x40_180) 41 x41_181) 42 x42_182) 43 x43_183) (va_up (va_up (va_up (va_up (va_up (va_up (va_up (va_up (va_up (va_up (va_up (va_up a 4 y4_184) 5 y5_185) 6 y6_186) 7 y7_187) 8 y8_188) 9 y9_189) 10 y10_190) 11 y11_191) 14 y14_192) 15 y15_193) 17 y17_194) 18 y18_195)) _ := hP
    have hD : va_D _ (mw g h0 b (va_up (va_up (va_up (va_up (va_up (va_up i 1 x1_178) 2 x2_179) 40 x40_180) 41 x41_181) 42 x42_182) 43 x43_183) (va_up (va_up (va_up (va_up (va_up (va_up (va_up (va_up (va_up (va_up (va_up (va_up a 4 y4_184) 5 y5_185) 6 y6_186) 7 y7_187) 8 y8_188) 9 y9_189) 10 y10_190) 11 y11_191) 14 y14_192) 15 y15_193) 17 y17_194) 18 y18_195)) := hD
    refine W.eq (g2 := F0 m 240 ls [.int z_197]) rfl ?_
    refine lv_istore (lv' := [(4, .int z_197), (3, .int z_175), (0, .ref h0), (1, .int kk), (2, .int ck)]) hx hb dX10_doesBlocks_240 hl (by decide) rfl (fun ls hl => ?_)
    refine lv_iload hx hb dX10_doesBlocks_242 (lv_at hl 0 rfl) ?_
    refine lv_if_eq (tgt := 252) hx hb dX10_doesBlocks_244 (by decide) (fun c_198 => ?_) (fun c_198 => ?_)
    · have nc_198 := eq_i c_198
      have lc_198 : (0 : Int32).toInt = 0 := by decide
      refine lv_iload_n hx hb dX10_doesBlocks_252 rfl (lv_at hl 1 rfl) ?_
      exact M_i hx hb hr hlocks (x1_178, x2_179, x40_180, x41_181, x42_182, x43_183, y4_184, y5_185, y6_186, y7_187, y8_188, y9_189, y10_190, y11_191, y14_192, y15_193, y17_194, y18_195) hP hD hK hS ⟨⟨_, rfl⟩, ⟨by omega, by omega⟩⟩ (by first | exact Nat.le_of_ble_eq_true rfl | (simp only [rm_X10_doesBlocks]; omega)) (by first | exact Nat.le_of_ble_eq_true rfl | (simp only [rm_X10_doesBlocks]; omega)) dX10_doesBlocks_253
    · have nc_198 := ne_i c_198
      have lc_198 : (0 : Int32).toInt = 0 := by decide
      refine lv_iload hx hb dX10_doesBlocks_247 (lv_at hl 0 rfl) ?_
      refine lv_goto (tgt := 253) hx hb dX10_doesBlocks_249 (by decide) ?_
      exact M_i hx hb hr hlocks (x1_178, x2_179, x40_180, x41_181, x42_182, x43_183, y4_184, y5_185, y6_186, y7_187, y8_188, y9_189, y10_190, y11_191, y14_192, y15_193, y17_194, y18_195) hP hD hK hS ⟨⟨_, rfl⟩, ⟨by omega, by omega⟩⟩ (by first | exact Nat.le_of_ble_eq_true rfl | (simp only [rm_X10_doesBlocks]; omega)) (by first | exact Nat.le_of_ble_eq_true rfl | (simp only [rm_X10_doesBlocks]; omega)) dX10_doesBlocks_253
  · have nc_176 := eq_i c_176
    have lc_176 : (1000 : Int32).toInt = 1000 := by decide
    refine lv_iload_n hx hb dX10_doesBlocks_227 rfl (lv_at hl 0 rfl) ?_
    exact M_i hx hb hr hlocks (x1_156, x2_157, x40_158, x41_159, x42_160, x43_161, y4_162, y5_163, y6_164, y7_165, y8_166, y9_167, y10_168, y11_169, y14_170, y15_171, y17_172, y18_173) hP hD hK hS ⟨⟨_, rfl⟩, ⟨by omega, by omega⟩⟩ (by first | exact Nat.le_of_ble_eq_true rfl | (simp only [rm_X10_doesBlocks]; omega)) (by first | exact Nat.le_of_ble_eq_true rfl | (simp only [rm_X10_doesBlocks]; omega)) dX10_doesBlocks_228

theorem inw_X10_does_10 : ∀ w ∈ wsX100, w ∈ wsX10_does := by decide +kernel
set_option maxHeartbeats 1000000 in
set_option maxRecDepth 100000 in
theorem m_X10_does (l : Launch) (dC : Nat → ClassId) (dI : Nat → Nat → Nat) (sa : Nat → Nat) (g : Nat → Nat) (h0 : Nat) (b : Nat → Nat) (V : Nat → Prop) (dp : Nat → Nat) (j : Nat) (dl : Nat) (i : Nat → Int32) (a : Nat → Nat → Int32) (kk : Int32) (ck : Int32) (sz : Nat) (hND : ND V dp (a 26) (a 27) (a 31) (a 32) (a 33)) (hj : dl + j = 9) (hnode : ∃ q : Nat, kk = nI q ∧ V q ∧ dp q = dl) (hc30 : vp_in ck 30) (hwt : 1 ≤ ((a 13) ck.toNatClampNeg).toInt ∧ ((a 13) ck.toNatClampNeg).toInt ≤ 50) (hL : (i 40).toInt ≤ (i 39).toInt) (IHR : ∀ j' dl' : Nat, dl' + j' = 9 → j = j' + 1 → ∀ (i : Nat → Int32) (a : Nat → Nat → Int32) (hn : Int32) (ck : Int32) (sz : Nat) (hND : ND V dp (a 26) (a 27) (a 31) (a 32) (a 33)) (hlk0 : lk V dp dl' hn) (hc30 : vp_in ck 30) (hwt : 1 ≤ ((a 13) ck.toNatClampNeg).toInt ∧ ((a 13) ck.toNatClampNeg).toInt ≤ 50) (hL : (i 40).toInt ≤ (i 39).toInt), CT l dC dI sa yX10_row wsX10_row (rm_X10_row V dp j' dl') [.ref h0, .int hn, .int ck] (mw g h0 b i a) (tyM g) sz (fun (r : Option Value) (u : Int32 × Int32 × Int32 × Int32 × Int32 × Int32 × (Nat → Int32) × (Nat → Int32) × (Nat → Int32) × (Nat → Int32) × (Nat → Int32) × (Nat → Int32) × (Nat → Int32) × (Nat → Int32) × (Nat → Int32) × (Nat → Int32) × (Nat → Int32) × (Nat → Int32)) => match u with | (x1, x2, x40, x41, x42, x43, y4, y5, y6, y7, y8, y9, y10, y11, y14, y15, y17, y18) => (∃ z : Int32, r = some (.int z)) ∧ ((i 40).toInt ≤ x40.toInt ∧ x40.toInt ≤ (i 39).toInt)) (fun (u : Int32 × Int32 × Int32 × Int32 × Int32 × Int32 × (Nat → Int32) × (Nat → Int32) × (Nat → Int32) × (Nat → Int32) × (Nat → Int32) × (Nat → Int32) × (Nat → Int32) × (Nat → Int32) × (Nat → Int32) × (Nat → Int32) × (Nat → Int32) × (Nat → Int32)) => match u with | (x1, x2, x40, x41, x42, x43, y4, y5, y6, y7, y8, y9, y10, y11, y14, y15, y17, y18) => mw g h0 b (va_up (va_up (va_up (va_up (va_up (va_up i 1 x1) 2 x2) 40 x40) 41 x41) 42 x42) 43 x43) (va_up (va_up (va_up (va_up (va_up (va_up (va_up (va_up (va_up (va_up (va_up (va_up a 4 y4) 5 y5) 6 y6) 7 y7) 8 y8) 9 y9) 10 y10) 11 y11) 14 y14) 15 y15) 17 y17) 18 y18)) (fun _ => []) 0 0) : CT l dC dI sa yX10_does wsX10_does (rm_X10_does V dp j dl) [.ref h0, .int kk, .int ck] (mw g h0 b i a) (tyM g) sz (fun (r : Option Value) (u : Int32 × Int32 × Int32 × Int32 × Int32 × Int32 × (Nat → Int32) × (Nat → Int32) × (Nat → Int32) × (Nat → Int32) × (Nat → Int32) × (Nat → Int32) × (Nat → Int32) × (Nat → Int32) × (Nat → Int32) × (Nat → Int32) × (Nat → Int32) × (Nat → Int32)) => match u with | (x1, x2, x40, x41, x42, x43, y4, y5, y6, y7, y8, y9, y10, y11, y14, y15, y17, y18) => (∃ z : Int32, r = some (.int z) ∧ (z = 0 → (i 40).toInt < x40.toInt)) ∧ ((i 40).toInt ≤ x40.toInt ∧ x40.toInt ≤ (i 39).toInt)) (fun (u : Int32 × Int32 × Int32 × Int32 × Int32 × Int32 × (Nat → Int32) × (Nat → Int32) × (Nat → Int32) × (Nat → Int32) × (Nat → Int32) × (Nat → Int32) × (Nat → Int32) × (Nat → Int32) × (Nat → Int32) × (Nat → Int32) × (Nat → Int32) × (Nat → Int32)) => match u with | (x1, x2, x40, x41, x42, x43, y4, y5, y6, y7, y8, y9, y10, y11, y14, y15, y17, y18) => mw g h0 b (va_up (va_up (va_up (va_up (va_up (va_up i 1 x1) 2 x2) 40 x40) 41 x41) 42 x42) 43 x43) (va_up (va_up (va_up (va_up (va_up (va_up (va_up (va_up (va_up (va_up (va_up (va_up a 4 y4) 5 y5) 6 y6) 7 y7) 8 y8) 9 y9) 10 y10) 11 y11) 14 y14) 15 y15) 17 y17) 18 y18)) (fun _ => []) 0 0 := by
  refine CT.start (cc := cX10_does) (maxL := 3) (ret := (some .int)) (by decide) rfl (Nat.le_of_ble_eq_true rfl) ?_
  intro p e s m below meth c ls hst hP hK hD hev hS hl
  obtain ⟨hx, hb, hr, hml, hts, hown, hlocks, hin⟩ := hst
  have hown : s.vm.findClass RX10 = some m.cls := hown
  have hA : ∀ q : Nat, s.heap.size ≤ q → va_A (mw g h0 b i a) s.heap.size q := fun _ h => Or.inr h
  have hl : lv_has ls 3 [(0, .ref h0), (1, .int kk), (2, .int ck)] := hl
  obtain ⟨q, hq, hVq, hdq⟩ := hnode
  have hq27 := (hND q hVq).1
  have hkq : kk.toNatClampNeg = q := by rw [hq]; exact nI_clamp (by omega)
  have hk : vp_in kk 2700 := by rw [hq]; exact vp_in_nI hq27 (by decide)
  refine lv_aload_n hx hb dX10_does_0 rfl (lv_at hl 0 rfl) ?_
  refine M_V ⟨hx, hb, hml, hown, hts⟩ (m_X10_counts l dC dI sa g h0 b i a  _ (show (i 40).toInt ≤ (i 39).toInt from by omega)) (cwV 0 hts gX10_does_X10_counts rfl rfl rfl (by decide +kernel) ⟨(by first | exact Nat.le_of_ble_eq_true rfl | (simp only [rm_X10_counts, rm_X10_does]; omega)), (by first | exact Nat.le_of_ble_eq_true rfl | (simp only [rm_X10_counts, rm_X10_does]; omega))⟩) hP hD hK hS hA hev rfl rfl rfl rfl hl.1 rfl (Nat.le_of_ble_eq_true rfl) dX10_does_1 ⟨(by first | exact Nat.le_of_ble_eq_true rfl | (simp only [rm_X10_does]; omega)), (by first | exact Nat.le_of_ble_eq_true rfl | (simp only [rm_X10_does]; omega))⟩ (fun r u H locs hw hP hD hS => ?_)
  obtain ⟨x40_1, rfl⟩ : ∃ z, z = u := ⟨_, rfl⟩
  have hw : ((r = some (.int 0) ∧ (x40_1.toInt = (i 40).toInt)) ∨ (r = some (.int 1) ∧ (x40_1.toInt = (i 40).toInt + 1 ∧ x40_1.toInt ≤ (i 39).toInt))) ∧ (True) := hw
  obtain ⟨⟨rfl, hz2_3⟩ | ⟨rfl, hz2_3⟩, hw_2⟩ := hw
  · have hP : va_P (dC, dI) vwCl (mw g h0 b (va_up i 40 x40_1) a) _ := hP
    have hD : va_D _ (mw g h0 b (va_up i 40 x40_1) a) := hD
    refine W.eq (g2 := F0 m 4 ls [.int 0]) rfl ?_
    refine lv_if_ne (tgt := 11) hx hb dX10_does_4 (by decide) (fun c_4 => absurd c_4 (by decide)) (fun _ => ?_)
    refine lv_sipush (v := 1000) hx hb dX10_does_7 (by decide) ?_
    exact M_i hx hb hr hlocks ((i 1), (i 2), x40_1, (i 41), (i 42), (i 43), (a 4), (a 5), (a 6), (a 7), (a 8), (a 9), (a 10), (a 11), (a 14), (a 15), (a 17), (a 18)) hP hD hK hS ⟨⟨_, rfl, (fun h9 => absurd h9 (by decide))⟩, ⟨by omega, by omega⟩⟩ (by first | exact Nat.le_of_ble_eq_true rfl | (simp only [rm_X10_does]; omega)) (by first | exact Nat.le_of_ble_eq_true rfl | (simp only [rm_X10_does]; omega)) dX10_does_10
  · have hP : va_P (dC, dI) vwCl (mw g h0 b (va_up i 40 x40_1) a) _ := hP
    have hD : va_D _ (mw g h0 b (va_up i 40 x40_1) a) := hD
    refine W.eq (g2 := F0 m 4 ls [.int 1]) rfl ?_
    refine lv_if_ne (tgt := 11) hx hb dX10_does_4 (by decide) (fun _ => ?_) (fun c_5 => absurd c_5 (by decide))
    refine lv_aload_n hx hb dX10_does_11 rfl (lv_at hl 0 rfl) ?_
    refine va_get (D := (dC, dI)) (ci := 10) (v := .ref (b 26)) (C := RX10) (T := TX10) (N := 51) hx hb hts inw_X10_does_10 hown hK hP 0 rfl rfl 26 (by decide) (hts (.fieldLink RX10 60 "VatHouseModel" "kind" "[I") (by decide +kernel)) (fun _ h9 => h9) rfl dX10_does_12 ?_
    refine lv_iload_n hx hb dX10_does_15 rfl (lv_at hl 1 rfl) ?_
    refine va_iald hx hb hK hP 16 15 rfl rfl (by assumption) dX10_does_16 ?_
    refine lv_topi (fun z_6 ez_6 => ?_)
    have ez_6 : z_6 = (a 26) kk.toNatClampNeg := ez_6
    by_cases c_7 : z_6 = 0
    · refine lv_tableIn (tgt := 60) hx hb dX10_does_17 (by rw [c_7]; decide) (by rw [c_7]; decide) (by rw [c_7]; rfl) (by decide) ?_
      refine lv_aload_n hx hb dX10_does_60 rfl (lv_at hl 0 rfl) ?_
      refine lv_iload_n hx hb dX10_does_61 rfl (lv_at hl 2 rfl) ?_
      refine lv_aload_n hx hb dX10_does_62 rfl (lv_at hl 0 rfl) ?_
      refine va_get (D := (dC, dI)) (ci := 10) (v := .ref (b 27)) (C := RX10) (T := TX10) (N := 51) hx hb hts inw_X10_does_10 hown hK hP 0 rfl rfl 27 (by decide) (hts (.fieldLink RX10 63 "VatHouseModel" "one" "[I") (by decide +kernel)) (fun _ h9 => h9) rfl dX10_does_63 ?_
      refine lv_iload_n hx hb dX10_does_66 rfl (lv_at hl 1 rfl) ?_
      refine va_iald hx hb hK hP 17 16 rfl rfl (by assumption) dX10_does_67 ?_
      refine lv_topi (fun z_8 ez_8 => ?_)
      have ez_8 : z_8 = (a 27) kk.toNatClampNeg := ez_8
      refine lv_aload_n hx hb dX10_does_68 rfl (lv_at hl 0 rfl) ?_
      refine va_get (D := (dC, dI)) (ci := 10) (v := .ref (b 28)) (C := RX10) (T := TX10) (N := 51) hx hb hts inw_X10_does_10 hown hK hP 0 rfl rfl 28 (by decide) (hts (.fieldLink RX10 66 "VatHouseModel" "two" "[I") (by decide +kernel)) (fun _ h9 => h9) rfl dX10_does_69 ?_
      refine lv_iload_n hx hb dX10_does_72 rfl (lv_at hl 1 rfl) ?_
      refine va_iald hx hb hK hP 18 17 rfl rfl (by assumption) dX10_does_73 ?_
      refine lv_topi (fun z_9 ez_9 => ?_)
      have ez_9 : z_9 = (a 28) kk.toNatClampNeg := ez_9
      refine M_V ⟨hx, hb, hml, hown, hts⟩ (m_X10_dipped l dC dI sa g h0 b (va_up i 40 x40_1) a ck z_8 z_9 _ hc30 (ND.one hND hVq hkq ez_8 ez_6 (Or.inl c_7)) hwt) (cwV 3 hts gX10_does_X10_dipped rfl rfl rfl (by decide +kernel) ⟨(by first | exact Nat.le_of_ble_eq_true rfl | (simp only [rm_X10_dipped, rm_X10_does]; omega)), (by first | exact Nat.le_of_ble_eq_true rfl | (simp only [rm_X10_dipped, rm_X10_does]; omega))⟩) hP hD hK hS hA hev rfl rfl rfl rfl hl.1 rfl (Nat.le_of_ble_eq_true rfl) dX10_does_74 ⟨(by first | exact Nat.le_of_ble_eq_true rfl | (simp only [rm_X10_does]; omega)), (by first | exact Nat.le_of_ble_eq_true rfl | (simp only [rm_X10_does]; omega))⟩ (fun r u H locs hw hP hD hS => ?_)
      obtain ⟨x41_10, x42_11, y4_12, y5_13, y6_14, y7_15, y8_16, y9_17, y10_18, y14_19, y17_20, y18_21⟩ := u
      have hw : (∃ z : Int32, r = some (.int z)) ∧ (True) := hw
      obtain ⟨⟨z_23, rfl⟩, hw_22⟩ := hw
      have hP : va_P (dC, dI) vwCl (mw g h0 b (va_up (va_up (va_up i 40 x40_1) 41 x41_10) 42 x42_11) (va_up (va_up (va_up (va_up (va_up (va_up (va_up (va_up (va_up (va_up a 4 y4_12) 5 y5_13) 6 y6_14) 7 y7_15) 8 y8_16) 9 y9_17) 10 y10_18) 14 y14_19) 17 y17_20) 18 y18_21)) _ := hP
      have hD : va_D _ (mw g h0 b (va_up (va_up (va_up i 40 x40_1) 41 x41_10) 42 x42_11) (va_up (va_up (va_up (va_up (va_up (va_up (va_up (va_up (va_up (va_up a 4 y4_12) 5 y5_13) 6 y6_14) 7 y7_15) 8 y8_16) 9 y9_17) 10 y10_18) 14 y14_19) 17 y17_20) 18 y18_21)) := hD
      refine W.eq (g2 := F0 m 77 ls [.int z_23]) rfl ?_
      exact M_i hx hb hr hlocks ((i 1), (i 2), x40_1, x41_10, x42_11, (i 43), y4_12, y5_13, y6_14, y7_15, y8_16, y9_17, y10_18, (a 11), y14_19, (a 15), y17_20, y18_21) hP hD hK hS ⟨⟨_, rfl, (fun _ => by omega)⟩, ⟨by omega, by omega⟩⟩ (by first | exact Nat.le_of_ble_eq_true rfl | (simp only [rm_X10_does]; omega)) (by first | exact Nat.le_of_ble_eq_true rfl | (simp only [rm_X10_does]; omega)) dX10_does_77
    by_cases c_24 : z_6 = 1
    · refine lv_tableIn (tgt := 78) hx hb dX10_does_17 (by rw [c_24]; decide) (by rw [c_24]; decide) (by rw [c_24]; rfl) (by decide) ?_
      refine lv_aload_n hx hb dX10_does_78 rfl (lv_at hl 0 rfl) ?_
      refine va_get (D := (dC, dI)) (ci := 10) (v := .ref (b 14)) (C := RX10) (T := TX10) (N := 51) hx hb hts inw_X10_does_10 hown hK hP 0 rfl rfl 14 (by decide) (hts (.fieldLink RX10 38 "VatHouseModel" "loose" "[I") (by decide +kernel)) (fun _ h9 => h9) rfl dX10_does_79 ?_
      refine lv_iload_n hx hb dX10_does_82 rfl (lv_at hl 2 rfl) ?_
      refine va_iald hx hb hK hP 10 9 rfl rfl (by assumption) dX10_does_83 ?_
      refine lv_topi (fun z_25 ez_25 => ?_)
      have ez_25 : z_25 = (a 14) ck.toNatClampNeg := ez_25
      refine lv_if_ne (tgt := 89) hx hb dX10_does_84 (by decide) (fun c_26 => ?_) (fun c_26 => ?_)
      · have nc_26 := ne_i c_26
        have lc_26 : (0 : Int32).toInt = 0 := by decide
        refine lv_aload_n hx hb dX10_does_89 rfl (lv_at hl 0 rfl) ?_
        refine lv_iload_n hx hb dX10_does_90 rfl (lv_at hl 2 rfl) ?_
        refine M_V ⟨hx, hb, hml, hown, hts⟩ (m_X10_airs l dC dI sa g h0 b (va_up i 40 x40_1) a ck _ hc30) (cwV 1 hts gX10_does_X10_airs rfl rfl rfl (by decide +kernel) ⟨(by first | exact Nat.le_of_ble_eq_true rfl | (simp only [rm_X10_airs, rm_X10_does]; omega)), (by first | exact Nat.le_of_ble_eq_true rfl | (simp only [rm_X10_airs, rm_X10_does]; omega))⟩) hP hD hK hS hA hev rfl rfl rfl rfl hl.1 rfl (Nat.le_of_ble_eq_true rfl) dX10_does_91 ⟨(by first | exact Nat.le_of_ble_eq_true rfl | (simp only [rm_X10_does]; omega)), (by first | exact Nat.le_of_ble_eq_true rfl | (simp only [rm_X10_does]; omega))⟩ (fun r u H locs hw hP hD hS => ?_)
        obtain ⟨x2_27, y14_28, y15_29⟩ := u
        have hw : (∃ z : Int32, r = some (.int z)) ∧ (True) := hw
        obtain ⟨⟨z_31, rfl⟩, hw_30⟩ := hw
        have hP : va_P (dC, dI) vwCl (mw g h0 b (va_up (va_up i 2 x2_27) 40 x40_1) (va_up (va_up a 14 y14_28) 15 y15_29)) _ := hP
        have hD : va_D _ (mw g h0 b (va_up (va_up i 2 x2_27) 40 x40_1) (va_up (va_up a 14 y14_28) 15 y15_29)) := hD
        refine W.eq (g2 := F0 m 94 ls [.int z_31]) rfl ?_
        refine lv_pop hx hb dX10_does_94 rfl ?_
        refine lv_iconst (v := 0) hx hb dX10_does_95 (by decide) ?_
        exact M_i hx hb hr hlocks ((i 1), x2_27, x40_1, (i 41), (i 42), (i 43), (a 4), (a 5), (a 6), (a 7), (a 8), (a 9), (a 10), (a 11), y14_28, y15_29, (a 17), (a 18)) hP hD hK hS ⟨⟨_, rfl, (fun _ => by omega)⟩, ⟨by omega, by omega⟩⟩ (by first | exact Nat.le_of_ble_eq_true rfl | (simp only [rm_X10_does]; omega)) (by first | exact Nat.le_of_ble_eq_true rfl | (simp only [rm_X10_does]; omega)) dX10_does_96
      · have nc_26 := eq_i c_26
        have lc_26 : (0 : Int32).toInt = 0 := by decide
        refine lv_iconst (v := 3) hx hb dX10_does_87 (by decide) ?_
        exact M_i hx hb hr hlocks ((i 1), (i 2), x40_1, (i 41), (i 42), (i 43), (a 4), (a 5), (a 6), (a 7), (a 8), (a 9), (a 10), (a 11), (a 14), (a 15), (a 17), (a 18)) hP hD hK hS ⟨⟨_, rfl, (fun _ => by omega)⟩, ⟨by omega, by omega⟩⟩ (by first | exact Nat.le_of_ble_eq_true rfl | (simp only [rm_X10_does]; omega)) (by first | exact Nat.le_of_ble_eq_true rfl | (simp only [rm_X10_does]; omega)) dX10_does_88
    by_cases c_32 : z_6 = 2
    · refine lv_tableIn (tgt := 97) hx hb dX10_does_17 (by rw [c_32]; decide) (by rw [c_32]; decide) (by rw [c_32]; rfl) (by decide) ?_
      refine lv_aload_n hx hb dX10_does_97 rfl (lv_at hl 0 rfl) ?_
      refine lv_iload_n hx hb dX10_does_98 rfl (lv_at hl 2 rfl) ?_
      refine M_V ⟨hx, hb, hml, hown, hts⟩ (m_X10_washes l dC dI sa g h0 b (va_up i 40 x40_1) a ck _ hc30) (cwV 1 hts gX10_does_X10_washes rfl rfl rfl (by decide +kernel) ⟨(by first | exact Nat.le_of_ble_eq_true rfl | (simp only [rm_X10_washes, rm_X10_does]; omega)), (by first | exact Nat.le_of_ble_eq_true rfl | (simp only [rm_X10_washes, rm_X10_does]; omega))⟩) hP hD hK hS hA hev rfl rfl rfl rfl hl.1 rfl (Nat.le_of_ble_eq_true rfl) dX10_does_99 ⟨(by first | exact Nat.le_of_ble_eq_true rfl | (simp only [rm_X10_does]; omega)), (by first | exact Nat.le_of_ble_eq_true rfl | (simp only [rm_X10_does]; omega))⟩ (fun r u H locs hw hP hD hS => ?_)
      obtain ⟨x2_33, y14_34, y15_35⟩ := u
      have hw : (∃ z : Int32, r = some (.int z)) ∧ (True) := hw
      obtain ⟨⟨z_37, rfl⟩, hw_36⟩ := hw
      have hP : va_P (dC, dI) vwCl (mw g h0 b (va_up (va_up i 2 x2_33) 40 x40_1) (va_up (va_up a 14 y14_34) 15 y15_35)) _ := hP
      have hD : va_D _ (mw g h0 b (va_up (va_up i 2 x2_33) 40 x40_1) (va_up (va_up a 14 y14_34) 15 y15_35)) := hD
      refine W.eq (g2 := F0 m 102 ls [.int z_37]) rfl ?_
      refine lv_pop hx hb dX10_does_102 rfl ?_
      refine lv_iconst (v := 0) hx hb dX10_does_103 (by decide) ?_
      exact M_i hx hb hr hlocks ((i 1), x2_33, x40_1, (i 41), (i 42), (i 43), (a 4), (a 5), (a 6), (a 7), (a 8), (a 9), (a 10), (a 11), y14_34, y15_35, (a 17), (a 18)) hP hD hK hS ⟨⟨_, rfl, (fun _ => by omega)⟩, ⟨by omega, by omega⟩⟩ (by first | exact Nat.le_of_ble_eq_true rfl | (simp only [rm_X10_does]; omega)) (by first | exact Nat.le_of_ble_eq_true rfl | (simp only [rm_X10_does]; omega)) dX10_does_104
    by_cases c_38 : z_6 = 3
    · refine lv_tableIn (tgt := 105) hx hb dX10_does_17 (by rw [c_38]; decide) (by rw [c_38]; decide) (by rw [c_38]; rfl) (by decide) ?_
      refine lv_aload_n hx hb dX10_does_105 rfl (lv_at hl 0 rfl) ?_
      refine lv_aload_n hx hb dX10_does_106 rfl (lv_at hl 0 rfl) ?_
      refine va_get (D := (dC, dI)) (ci := 10) (v := .ref (b 27)) (C := RX10) (T := TX10) (N := 51) hx hb hts inw_X10_does_10 hown hK hP 0 rfl rfl 27 (by decide) (hts (.fieldLink RX10 63 "VatHouseModel" "one" "[I") (by decide +kernel)) (fun _ h9 => h9) rfl dX10_does_107 ?_
      refine lv_iload_n hx hb dX10_does_110 rfl (lv_at hl 1 rfl) ?_
      refine va_iald hx hb hK hP 17 16 rfl rfl (by assumption) dX10_does_111 ?_
      refine lv_topi (fun z_39 ez_39 => ?_)
      have ez_39 : z_39 = (a 27) kk.toNatClampNeg := ez_39
      refine M_V ⟨hx, hb, hml, hown, hts⟩ (m_X10_rested l dC dI sa g h0 b (va_up i 40 x40_1) a z_39 _ (show x40_1.toInt ≤ (i 39).toInt from by omega)) (cwV 1 hts gX10_does_X10_rested rfl rfl rfl (by decide +kernel) ⟨(by first | exact Nat.le_of_ble_eq_true rfl | (simp only [rm_X10_rested, rm_X10_does]; omega)), (by first | exact Nat.le_of_ble_eq_true rfl | (simp only [rm_X10_rested, rm_X10_does]; omega))⟩) hP hD hK hS hA hev rfl rfl rfl rfl hl.1 rfl (Nat.le_of_ble_eq_true rfl) dX10_does_112 ⟨(by first | exact Nat.le_of_ble_eq_true rfl | (simp only [rm_X10_does]; omega)), (by first | exact Nat.le_of_ble_eq_true rfl | (simp only [rm_X10_does]; omega))⟩ (fun r u H locs hw hP hD hS => ?_)
      obtain ⟨x1_40, x40_41, x43_42, y5_43, y6_44, y7_45, y10_46, y11_47⟩ := u
      have hw : (∃ z : Int32, r = some (.int z)) ∧ (x40_1.toInt ≤ x40_41.toInt ∧ x40_41.toInt ≤ (i 39).toInt) := hw
      obtain ⟨⟨z_49, rfl⟩, hw_48⟩ := hw
      have hP : va_P (dC, dI) vwCl (mw g h0 b (va_up (va_up (va_up i 1 x1_40) 40 x40_41) 43 x43_42) (va_up (va_up (va_up (va_up (va_up a 5 y5_43) 6 y6_44) 7 y7_45) 10 y10_46) 11 y11_47)) _ := hP
      have hD : va_D _ (mw g h0 b (va_up (va_up (va_up i 1 x1_40) 40 x40_41) 43 x43_42) (va_up (va_up (va_up (va_up (va_up a 5 y5_43) 6 y6_44) 7 y7_45) 10 y10_46) 11 y11_47)) := hD
      refine W.eq (g2 := F0 m 115 ls [.int z_49]) rfl ?_
      exact M_i hx hb hr hlocks (x1_40, (i 2), x40_41, (i 41), (i 42), x43_42, (a 4), y5_43, y6_44, y7_45, (a 8), (a 9), y10_46, y11_47, (a 14), (a 15), (a 17), (a 18)) hP hD hK hS ⟨⟨_, rfl, (fun _ => by omega)⟩, ⟨by omega, by omega⟩⟩ (by first | exact Nat.le_of_ble_eq_true rfl | (simp only [rm_X10_does]; omega)) (by first | exact Nat.le_of_ble_eq_true rfl | (simp only [rm_X10_does]; omega)) dX10_does_115
    by_cases c_50 : z_6 = 4
    · refine lv_tableIn (tgt := 116) hx hb dX10_does_17 (by rw [c_50]; decide) (by rw [c_50]; decide) (by rw [c_50]; rfl) (by decide) ?_
      refine lv_aload_n hx hb dX10_does_116 rfl (lv_at hl 0 rfl) ?_
      refine lv_aload_n hx hb dX10_does_117 rfl (lv_at hl 0 rfl) ?_
      refine va_get (D := (dC, dI)) (ci := 10) (v := .ref (b 27)) (C := RX10) (T := TX10) (N := 51) hx hb hts inw_X10_does_10 hown hK hP 0 rfl rfl 27 (by decide) (hts (.fieldLink RX10 63 "VatHouseModel" "one" "[I") (by decide +kernel)) (fun _ h9 => h9) rfl dX10_does_118 ?_
      refine lv_iload_n hx hb dX10_does_121 rfl (lv_at hl 1 rfl) ?_
      refine va_iald hx hb hK hP 17 16 rfl rfl (by assumption) dX10_does_122 ?_
      refine lv_topi (fun z_51 ez_51 => ?_)
      have ez_51 : z_51 = (a 27) kk.toNatClampNeg := ez_51
      refine lv_aload_n hx hb dX10_does_123 rfl (lv_at hl 0 rfl) ?_
      refine va_get (D := (dC, dI)) (ci := 10) (v := .ref (b 28)) (C := RX10) (T := TX10) (N := 51) hx hb hts inw_X10_does_10 hown hK hP 0 rfl rfl 28 (by decide) (hts (.fieldLink RX10 66 "VatHouseModel" "two" "[I") (by decide +kernel)) (fun _ h9 => h9) rfl dX10_does_124 ?_
      refine lv_iload_n hx hb dX10_does_127 rfl (lv_at hl 1 rfl) ?_
      refine va_iald hx hb hK hP 18 17 rfl rfl (by assumption) dX10_does_128 ?_
      refine lv_topi (fun z_52 ez_52 => ?_)
      have ez_52 : z_52 = (a 28) kk.toNatClampNeg := ez_52
      refine M_V ⟨hx, hb, hml, hown, hts⟩ (m_X10_feeds l dC dI sa g h0 b (va_up i 40 x40_1) a z_51 z_52 _ (ND.one hND hVq hkq ez_51 ez_6 (Or.inr (Or.inl c_50)))) (cwV 2 hts gX10_does_X10_feeds rfl rfl rfl (by decide +kernel) ⟨(by first | exact Nat.le_of_ble_eq_true rfl | (simp only [rm_X10_feeds, rm_X10_does]; omega)), (by first | exact Nat.le_of_ble_eq_true rfl | (simp only [rm_X10_feeds, rm_X10_does]; omega))⟩) hP hD hK hS hA hev rfl rfl rfl rfl hl.1 rfl (Nat.le_of_ble_eq_true rfl) dX10_does_129 ⟨(by first | exact Nat.le_of_ble_eq_true rfl | (simp only [rm_X10_does]; omega)), (by first | exact Nat.le_of_ble_eq_true rfl | (simp only [rm_X10_does]; omega))⟩ (fun r u H locs hw hP hD hS => ?_)
      obtain ⟨y5_53, y7_54⟩ := u
      have hw : (∃ z : Int32, r = some (.int z) ∧ (z = 0 ∨ z = 1)) ∧ (True) := hw
      obtain ⟨⟨z_56, rfl, hz_z_56⟩, hw_55⟩ := hw
      have hP : va_P (dC, dI) vwCl (mw g h0 b (va_up i 40 x40_1) (va_up (va_up a 5 y5_53) 7 y7_54)) _ := hP
      have hD : va_D _ (mw g h0 b (va_up i 40 x40_1) (va_up (va_up a 5 y5_53) 7 y7_54)) := hD
      refine W.eq (g2 := F0 m 132 ls [.int z_56]) rfl ?_
      refine lv_if_eq (tgt := 139) hx hb dX10_does_132 (by decide) (fun c_57 => ?_) (fun c_57 => ?_)
      · have nc_57 := eq_i c_57
        have lc_57 : (0 : Int32).toInt = 0 := by decide
        refine lv_iconst (v := 0) hx hb dX10_does_139 (by decide) ?_
        exact M_i hx hb hr hlocks ((i 1), (i 2), x40_1, (i 41), (i 42), (i 43), (a 4), y5_53, (a 6), y7_54, (a 8), (a 9), (a 10), (a 11), (a 14), (a 15), (a 17), (a 18)) hP hD hK hS ⟨⟨_, rfl, (fun _ => by omega)⟩, ⟨by omega, by omega⟩⟩ (by first | exact Nat.le_of_ble_eq_true rfl | (simp only [rm_X10_does]; omega)) (by first | exact Nat.le_of_ble_eq_true rfl | (simp only [rm_X10_does]; omega)) dX10_does_140
      · have nc_57 := ne_i c_57
        have lc_57 : (0 : Int32).toInt = 0 := by decide
        refine lv_iconst (v := 5) hx hb dX10_does_135 (by decide) ?_
        refine lv_goto (tgt := 140) hx hb dX10_does_136 (by decide) ?_
        exact M_i hx hb hr hlocks ((i 1), (i 2), x40_1, (i 41), (i 42), (i 43), (a 4), y5_53, (a 6), y7_54, (a 8), (a 9), (a 10), (a 11), (a 14), (a 15), (a 17), (a 18)) hP hD hK hS ⟨⟨_, rfl, (fun _ => by omega)⟩, ⟨by omega, by omega⟩⟩ (by first | exact Nat.le_of_ble_eq_true rfl | (simp only [rm_X10_does]; omega)) (by first | exact Nat.le_of_ble_eq_true rfl | (simp only [rm_X10_does]; omega)) dX10_does_140
    by_cases c_58 : z_6 = 5
    · refine lv_tableIn (tgt := 141) hx hb dX10_does_17 (by rw [c_58]; decide) (by rw [c_58]; decide) (by rw [c_58]; rfl) (by decide) ?_
      refine lv_aload_n hx hb dX10_does_141 rfl (lv_at hl 0 rfl) ?_
      refine va_get (D := (dC, dI)) (ci := 10) (v := .ref (b 7)) (C := RX10) (T := TX10) (N := 51) hx hb hts inw_X10_does_10 hown hK hP 0 rfl rfl 7 (by decide) (hts (.fieldLink RX10 19 "VatHouseModel" "state" "[I") (by decide +kernel)) (fun _ h9 => h9) rfl dX10_does_142 ?_
      refine lv_aload_n hx hb dX10_does_145 rfl (lv_at hl 0 rfl) ?_
      refine va_get (D := (dC, dI)) (ci := 10) (v := .ref (b 27)) (C := RX10) (T := TX10) (N := 51) hx hb hts inw_X10_does_10 hown hK hP 0 rfl rfl 27 (by decide) (hts (.fieldLink RX10 63 "VatHouseModel" "one" "[I") (by decide +kernel)) (fun _ h9 => h9) rfl dX10_does_146 ?_
      refine lv_iload_n hx hb dX10_does_149 rfl (lv_at hl 1 rfl) ?_
      refine va_iald hx hb hK hP 17 16 rfl rfl (by assumption) dX10_does_150 ?_
      refine lv_topi (fun z_59 ez_59 => ?_)
      have ez_59 : z_59 = (a 27) kk.toNatClampNeg := ez_59
      refine va_iald hx hb hK hP 4 3 rfl rfl (ND.one hND hVq hkq ez_59 ez_6 (Or.inr (Or.inr (Or.inl c_58)))) dX10_does_151 ?_
      refine lv_topi (fun z_60 ez_60 => ?_)
      have ez_60 : z_60 = (a 7) z_59.toNatClampNeg := ez_60
      refine lv_iconst (v := 2) hx hb dX10_does_152 (by decide) ?_
      refine lv_icmp_eq (tgt := 158) hx hb dX10_does_153 (by decide) (fun c_61 => ?_) (fun c_61 => ?_)
      · have nc_61 := eq_i c_61
        have lc_61 : (2 : Int32).toInt = 2 := by decide
        refine lv_aload_n hx hb dX10_does_158 rfl (lv_at hl 0 rfl) ?_
        refine lv_aload_n hx hb dX10_does_159 rfl (lv_at hl 0 rfl) ?_
        refine va_get (D := (dC, dI)) (ci := 10) (v := .ref (b 27)) (C := RX10) (T := TX10) (N := 51) hx hb hts inw_X10_does_10 hown hK hP 0 rfl rfl 27 (by decide) (hts (.fieldLink RX10 63 "VatHouseModel" "one" "[I") (by decide +kernel)) (fun _ h9 => h9) rfl dX10_does_160 ?_
        refine lv_iload_n hx hb dX10_does_163 rfl (lv_at hl 1 rfl) ?_
        refine va_iald hx hb hK hP 17 16 rfl rfl (by assumption) dX10_does_164 ?_
        refine lv_topi (fun z_62 ez_62 => ?_)
        have ez_62 : z_62 = (a 27) kk.toNatClampNeg := ez_62
        refine M_V ⟨hx, hb, hml, hown, hts⟩ (m_X10_limes l dC dI sa g h0 b (va_up i 40 x40_1) a z_62 _ (ND.one hND hVq hkq ez_62 ez_6 (Or.inr (Or.inr (Or.inl c_58))))) (cwV 1 hts gX10_does_X10_limes rfl rfl rfl (by decide +kernel) ⟨(by first | exact Nat.le_of_ble_eq_true rfl | (simp only [rm_X10_limes, rm_X10_does]; omega)), (by first | exact Nat.le_of_ble_eq_true rfl | (simp only [rm_X10_limes, rm_X10_does]; omega))⟩) hP hD hK hS hA hev rfl rfl rfl rfl hl.1 rfl (Nat.le_of_ble_eq_true rfl) dX10_does_165 ⟨(by first | exact Nat.le_of_ble_eq_true rfl | (simp only [rm_X10_does]; omega)), (by first | exact Nat.le_of_ble_eq_true rfl | (simp only [rm_X10_does]; omega))⟩ (fun r u H locs hw hP hD hS => ?_)
        obtain ⟨y5_63, y6_64, y7_65⟩ := u
        have hw : (r = none) ∧ (True) := hw
        obtain ⟨rfl, hw_66⟩ := hw
        have hP : va_P (dC, dI) vwCl (mw g h0 b (va_up i 40 x40_1) (va_up (va_up (va_up a 5 y5_63) 6 y6_64) 7 y7_65)) _ := hP
        have hD : va_D _ (mw g h0 b (va_up i 40 x40_1) (va_up (va_up (va_up a 5 y5_63) 6 y6_64) 7 y7_65)) := hD
        refine W.eq (g2 := F0 m 168 ls []) rfl ?_
        refine lv_iconst (v := 0) hx hb dX10_does_168 (by decide) ?_
        exact M_i hx hb hr hlocks ((i 1), (i 2), x40_1, (i 41), (i 42), (i 43), (a 4), y5_63, y6_64, y7_65, (a 8), (a 9), (a 10), (a 11), (a 14), (a 15), (a 17), (a 18)) hP hD hK hS ⟨⟨_, rfl, (fun _ => by omega)⟩, ⟨by omega, by omega⟩⟩ (by first | exact Nat.le_of_ble_eq_true rfl | (simp only [rm_X10_does]; omega)) (by first | exact Nat.le_of_ble_eq_true rfl | (simp only [rm_X10_does]; omega)) dX10_does_169
      · have nc_61 := ne_i c_61
        have lc_61 : (2 : Int32).toInt = 2 := by decide
        refine lv_iconst (v := 4) hx hb dX10_does_156 (by decide) ?_
        exact M_i hx hb hr hlocks ((i 1), (i 2), x40_1, (i 41), (i 42), (i 43), (a 4), (a 5), (a 6), (a 7), (a 8), (a 9), (a 10), (a 11), (a 14), (a 15), (a 17), (a 18)) hP hD hK hS ⟨⟨_, rfl, (fun _ => by omega)⟩, ⟨by omega, by omega⟩⟩ (by first | exact Nat.le_of_ble_eq_true rfl | (simp only [rm_X10_does]; omega)) (by first | exact Nat.le_of_ble_eq_true rfl | (simp only [rm_X10_does]; omega)) dX10_does_157
    by_cases c_67 : z_6 = 6
    · refine lv_tableIn (tgt := 170) hx hb dX10_does_17 (by rw [c_67]; decide) (by rw [c_67]; decide) (by rw [c_67]; rfl) (by decide) ?_
      refine lv_bipush (v := 100) hx hb dX10_does_170 (by decide) ?_
      refine lv_aload_n hx hb dX10_does_172 rfl (lv_at hl 0 rfl) ?_
      refine va_get (D := (dC, dI)) (ci := 10) (v := .ref (b 27)) (C := RX10) (T := TX10) (N := 51) hx hb hts inw_X10_does_10 hown hK hP 0 rfl rfl 27 (by decide) (hts (.fieldLink RX10 63 "VatHouseModel" "one" "[I") (by decide +kernel)) (fun _ h9 => h9) rfl dX10_does_173 ?_
      refine lv_iload_n hx hb dX10_does_176 rfl (lv_at hl 1 rfl) ?_
      refine va_iald hx hb hK hP 17 16 rfl rfl (by assumption) dX10_does_177 ?_
      refine lv_topi (fun z_68 ez_68 => ?_)
      have ez_68 : z_68 = (a 27) kk.toNatClampNeg := ez_68
      refine lv_iadd hx hb dX10_does_178 ?_
      refine lv_topi (fun z_69 ez_69 => ?_)
      exact M_i hx hb hr hlocks ((i 1), (i 2), x40_1, (i 41), (i 42), (i 43), (a 4), (a 5), (a 6), (a 7), (a 8), (a 9), (a 10), (a 11), (a 14), (a 15), (a 17), (a 18)) hP hD hK hS ⟨⟨_, rfl, (fun _ => by omega)⟩, ⟨by omega, by omega⟩⟩ (by first | exact Nat.le_of_ble_eq_true rfl | (simp only [rm_X10_does]; omega)) (by first | exact Nat.le_of_ble_eq_true rfl | (simp only [rm_X10_does]; omega)) dX10_does_179
    refine lv_tableOut (tgt := 180) hx hb dX10_does_17 (tab_out7 c_7 c_24 c_32 c_38 c_50 c_58 c_67) (by decide) ?_
    refine lv_aload_n hx hb dX10_does_180 rfl (lv_at hl 0 rfl) ?_
    refine lv_iload_n hx hb dX10_does_181 rfl (lv_at hl 1 rfl) ?_
    refine lv_iload_n hx hb dX10_does_182 rfl (lv_at hl 2 rfl) ?_
    refine M_V ⟨hx, hb, hml, hown, hts⟩ (m_X10_doesBlocks l dC dI sa g h0 b V dp j dl (va_up i 40 x40_1) a kk ck _ hND hj (show ∃ q : Nat, kk = nI q ∧ V q ∧ dp q = dl from ⟨q, hq, hVq, hdq⟩) hc30 hwt (show x40_1.toInt ≤ (i 39).toInt from by omega) IHR) (cwV 2 hts gX10_does_X10_doesBlocks rfl rfl rfl (by decide +kernel) ⟨(by first | exact Nat.le_of_ble_eq_true rfl | (simp only [rm_X10_doesBlocks, rm_X10_does]; omega)), (by first | exact Nat.le_of_ble_eq_true rfl | (simp only [rm_X10_doesBlocks, rm_X10_does]; omega))⟩) hP hD hK hS hA hev rfl rfl rfl rfl hl.1 rfl (Nat.le_of_ble_eq_true rfl) dX10_does_183 ⟨(by first | exact Nat.le_of_ble_eq_true rfl | (simp only [rm_X10_does]; omega)), (by first | exact Nat.le_of_ble_eq_true rfl | (simp only [rm_X10_does]; omega))⟩ (fun r u H locs hw hP hD hS => ?_)
    obtain ⟨x1_70, x2_71, x40_72, x41_73, x42_74, x43_75, y4_76, y5_77, y6_78, y7_79, y8_80, y9_81, y10_82, y11_83, y14_84, y15_85, y17_86, y18_87⟩ := u
    have hw : (∃ z : Int32, r = some (.int z)) ∧ (x40_1.toInt ≤ x40_72.toInt ∧ x40_72.toInt ≤ (i 39).toInt) := hw
    obtain ⟨⟨z_89, rfl⟩, hw_88⟩ := hw
    have hP : va_P (dC, dI) vwCl (mw g h0 b (va_up (va_up (va_up (va_up (va_up (va_up i 1 x1_70) 2 x2_71) 40 x40_72) 41 x41_73) 42 x42_74) 43 x43_75) (va_up (va_up (va_up (va_up (va_up (va_up (va_up (va_up (va_up (va_up (va_up (va_up a 4 y4_76) 5 y5_77) 6 y6_78) 7 y7_79) 8 y8_80) 9 y9_81) 10 y10_82) 11 y11_83) 14 y14_84) 15 y15_85) 17 y17_86) 18 y18_87)) _ := hP
    have hD : va_D _ (mw g h0 b (va_up (va_up (va_up (va_up (va_up (va_up i 1 x1_70) 2 x2_71) 40 x40_72) 41 x41_73) 42 x42_74) 43 x43_75) (va_up (va_up (va_up (va_up (va_up (va_up (va_up (va_up (va_up (va_up (va_up (va_up a 4 y4_76) 5 y5_77) 6 y6_78) 7 y7_79) 8 y8_80) 9 y9_81) 10 y10_82) 11 y11_83) 14 y14_84) 15 y15_85) 17 y17_86) 18 y18_87)) := hD
    refine W.eq (g2 := F0 m 186 ls [.int z_89]) rfl ?_
    exact M_i hx hb hr hlocks (x1_70, x2_71, x40_72, x41_73, x42_74, x43_75, y4_76, y5_77, y6_78, y7_79, y8_80, y9_81, y10_82, y11_83, y14_84, y15_85, y17_86, y18_87) hP hD hK hS ⟨⟨_, rfl, (fun _ => by omega)⟩, ⟨by omega, by omega⟩⟩ (by first | exact Nat.le_of_ble_eq_true rfl | (simp only [rm_X10_does]; omega)) (by first | exact Nat.le_of_ble_eq_true rfl | (simp only [rm_X10_does]; omega)) dX10_does_186

theorem inw_X10_row_10 : ∀ w ∈ wsX100, w ∈ wsX10_row := by decide +kernel
set_option maxHeartbeats 1000000 in
set_option maxRecDepth 100000 in
theorem m_X10_row (l : Launch) (dC : Nat → ClassId) (dI : Nat → Nat → Nat) (sa : Nat → Nat) (g : Nat → Nat) (h0 : Nat) (b : Nat → Nat) (V : Nat → Prop) (dp : Nat → Nat) (j : Nat) (dl : Nat) (i : Nat → Int32) (a : Nat → Nat → Int32) (hn : Int32) (ck : Int32) (sz : Nat) (hND : ND V dp (a 26) (a 27) (a 31) (a 32) (a 33)) (hj : dl + j = 9) (hlk0 : lk V dp dl hn) (hc30 : vp_in ck 30) (hwt : 1 ≤ ((a 13) ck.toNatClampNeg).toInt ∧ ((a 13) ck.toNatClampNeg).toInt ≤ 50) (hL : (i 40).toInt ≤ (i 39).toInt) (IHR : ∀ j' dl' : Nat, dl' + j' = 9 → j = j' + 1 → ∀ (i : Nat → Int32) (a : Nat → Nat → Int32) (hn : Int32) (ck : Int32) (sz : Nat) (hND : ND V dp (a 26) (a 27) (a 31) (a 32) (a 33)) (hlk0 : lk V dp dl' hn) (hc30 : vp_in ck 30) (hwt : 1 ≤ ((a 13) ck.toNatClampNeg).toInt ∧ ((a 13) ck.toNatClampNeg).toInt ≤ 50) (hL : (i 40).toInt ≤ (i 39).toInt), CT l dC dI sa yX10_row wsX10_row (rm_X10_row V dp j' dl') [.ref h0, .int hn, .int ck] (mw g h0 b i a) (tyM g) sz (fun (r : Option Value) (u : Int32 × Int32 × Int32 × Int32 × Int32 × Int32 × (Nat → Int32) × (Nat → Int32) × (Nat → Int32) × (Nat → Int32) × (Nat → Int32) × (Nat → Int32) × (Nat → Int32) × (Nat → Int32) × (Nat → Int32) × (Nat → Int32) × (Nat → Int32) × (Nat → Int32)) => match u with | (x1, x2, x40, x41, x42, x43, y4, y5, y6, y7, y8, y9, y10, y11, y14, y15, y17, y18) => (∃ z : Int32, r = some (.int z)) ∧ ((i 40).toInt ≤ x40.toInt ∧ x40.toInt ≤ (i 39).toInt)) (fun (u : Int32 × Int32 × Int32 × Int32 × Int32 × Int32 × (Nat → Int32) × (Nat → Int32) × (Nat → Int32) × (Nat → Int32) × (Nat → Int32) × (Nat → Int32) × (Nat → Int32) × (Nat → Int32) × (Nat → Int32) × (Nat → Int32) × (Nat → Int32) × (Nat → Int32)) => match u with | (x1, x2, x40, x41, x42, x43, y4, y5, y6, y7, y8, y9, y10, y11, y14, y15, y17, y18) => mw g h0 b (va_up (va_up (va_up (va_up (va_up (va_up i 1 x1) 2 x2) 40 x40) 41 x41) 42 x42) 43 x43) (va_up (va_up (va_up (va_up (va_up (va_up (va_up (va_up (va_up (va_up (va_up (va_up a 4 y4) 5 y5) 6 y6) 7 y7) 8 y8) 9 y9) 10 y10) 11 y11) 14 y14) 15 y15) 17 y17) 18 y18)) (fun _ => []) 0 0) : CT l dC dI sa yX10_row wsX10_row (rm_X10_row V dp j dl) [.ref h0, .int hn, .int ck] (mw g h0 b i a) (tyM g) sz (fun (r : Option Value) (u : Int32 × Int32 × Int32 × Int32 × Int32 × Int32 × (Nat → Int32) × (Nat → Int32) × (Nat → Int32) × (Nat → Int32) × (Nat → Int32) × (Nat → Int32) × (Nat → Int32) × (Nat → Int32) × (Nat → Int32) × (Nat → Int32) × (Nat → Int32) × (Nat → Int32)) => match u with | (x1, x2, x40, x41, x42, x43, y4, y5, y6, y7, y8, y9, y10, y11, y14, y15, y17, y18) => (∃ z : Int32, r = some (.int z)) ∧ ((i 40).toInt ≤ x40.toInt ∧ x40.toInt ≤ (i 39).toInt)) (fun (u : Int32 × Int32 × Int32 × Int32 × Int32 × Int32 × (Nat → Int32) × (Nat → Int32) × (Nat → Int32) × (Nat → Int32) × (Nat → Int32) × (Nat → Int32) × (Nat → Int32) × (Nat → Int32) × (Nat → Int32) × (Nat → Int32) × (Nat → Int32) × (Nat → Int32)) => match u with | (x1, x2, x40, x41, x42, x43, y4, y5, y6, y7, y8, y9, y10, y11, y14, y15, y17, y18) => mw g h0 b (va_up (va_up (va_up (va_up (va_up (va_up i 1 x1) 2 x2) 40 x40) 41 x41) 42 x42) 43 x43) (va_up (va_up (va_up (va_up (va_up (va_up (va_up (va_up (va_up (va_up (va_up (va_up a 4 y4) 5 y5) 6 y6) 7 y7) 8 y8) 9 y9) 10 y10) 11 y11) 14 y14) 15 y15) 17 y17) 18 y18)) (fun _ => []) 0 0 := by
  refine CT.start (cc := cX10_row) (maxL := 5) (ret := (some .int)) (by decide) rfl (Nat.le_of_ble_eq_true rfl) ?_
  intro p e s m below meth c ls hst hP hK hD hev hS hl
  obtain ⟨hx, hb, hr, hml, hts, hown, hlocks, hin⟩ := hst
  have hown : s.vm.findClass RX10 = some m.cls := hown
  have hA : ∀ q : Nat, s.heap.size ≤ q → va_A (mw g h0 b i a) s.heap.size q := fun _ h => Or.inr h
  have hl : lv_has ls 5 [(0, .ref h0), (1, .int hn), (2, .int ck)] := hl
  refine lv_iload_n hx hb dX10_row_0 rfl (lv_at hl 1 rfl) ?_
  refine lv_istore_n (lv' := [(3, .int hn), (0, .ref h0), (1, .int hn), (2, .int ck)]) hx hb dX10_row_1 rfl hl (by decide) rfl (fun ls hl => ?_)
  have lp : ∀ (n : Nat) (kx : Int32) (l1 : Int32) (l2 : Int32) (l40 : Int32) (l41 : Int32) (l42 : Int32) (l43 : Int32) (l4 : Nat → Int32) (l5 : Nat → Int32) (l6 : Nat → Int32) (l7 : Nat → Int32) (l8 : Nat → Int32) (l9 : Nat → Int32) (l10 : Nat → Int32) (l11 : Nat → Int32) (l14 : Nat → Int32) (l15 : Nat → Int32) (l17 : Nat → Int32) (l18 : Nat → Int32) (H : Heap) (locs : List Loc) (ls : Array Slot), (((i 39).toInt - l40.toInt).toNat < n) → (l40.toInt ≤ (i 39).toInt) → ((i 40).toInt ≤ l40.toInt) → (lk V dp dl kx) → va_P (dC, dI) vwCl (mw g h0 b (va_up (va_up (va_up (va_up (va_up (va_up i 1 l1) 2 l2) 40 l40) 41 l41) 42 l42) 43 l43) (va_up (va_up (va_up (va_up (va_up (va_up (va_up (va_up (va_up (va_up (va_up (va_up a 4 l4) 5 l5) 6 l6) 7 l7) 8 l8) 9 l9) 10 l10) 11 l11) 14 l14) 15 l15) 17 l17) 18 l18)) H → va_D (va_A (mw g h0 b i a) s.heap.size) (mw g h0 b (va_up (va_up (va_up (va_up (va_up (va_up i 1 l1) 2 l2) 40 l40) 41 l41) 42 l42) 43 l43) (va_up (va_up (va_up (va_up (va_up (va_up (va_up (va_up (va_up (va_up (va_up (va_up a 4 l4) 5 l5) 6 l6) 7 l7) 8 l8) 9 l9) 10 l10) 11 l11) 14 l14) 15 l15) 17 l17) 18 l18)) → va_S (va_A (mw g h0 b i a) s.heap.size) s.heap H locs → lv_has ls 5 [(3, .int kx), (0, .ref h0), (1, .int hn), (2, .int ck)] → W p l e (rm_X10_row V dp j dl) s m [.ref h0, .int hn, .int ck].toArray below meth c H locs 0 0 (MQ below (Qg (fun (r : Option Value) (u : Int32 × Int32 × Int32 × Int32 × Int32 × Int32 × (Nat → Int32) × (Nat → Int32) × (Nat → Int32) × (Nat → Int32) × (Nat → Int32) × (Nat → Int32) × (Nat → Int32) × (Nat → Int32) × (Nat → Int32) × (Nat → Int32) × (Nat → Int32) × (Nat → Int32)) => match u with | (x1, x2, x40, x41, x42, x43, y4, y5, y6, y7, y8, y9, y10, y11, y14, y15, y17, y18) => (∃ z : Int32, r = some (.int z)) ∧ ((i 40).toInt ≤ x40.toInt ∧ x40.toInt ≤ (i 39).toInt)) (fun u t => QW dC dI (va_A (mw g h0 b i a) s.heap.size) ((fun (u : Int32 × Int32 × Int32 × Int32 × Int32 × Int32 × (Nat → Int32) × (Nat → Int32) × (Nat → Int32) × (Nat → Int32) × (Nat → Int32) × (Nat → Int32) × (Nat → Int32) × (Nat → Int32) × (Nat → Int32) × (Nat → Int32) × (Nat → Int32) × (Nat → Int32)) => match u with | (x1, x2, x40, x41, x42, x43, y4, y5, y6, y7, y8, y9, y10, y11, y14, y15, y17, y18) => mw g h0 b (va_up (va_up (va_up (va_up (va_up (va_up i 1 x1) 2 x2) 40 x40) 41 x41) 42 x42) 43 x43) (va_up (va_up (va_up (va_up (va_up (va_up (va_up (va_up (va_up (va_up (va_up (va_up a 4 y4) 5 y5) 6 y6) 7 y7) 8 y8) 9 y9) 10 y10) 11 y11) 14 y14) 15 y15) 17 y17) 18 y18)) u) [] t) (va_A (mw g h0 b i a) s.heap.size)) [.ref h0, .int hn, .int ck].toArray s 0 0 (va_A (mw g h0 b i a) s.heap.size)) (F0 m 2 ls []) := by
    intro n
    induction n with
    | zero => intro kx l1 l2 l40 l41 l42 l43 l4 l5 l6 l7 l8 l9 l10 l11 l14 l15 l17 l18 H locs ls hm hLl hge hlk hP hD hS hl; exact absurd hm (by omega)
    | succ n ih =>
      intro kx l1 l2 l40 l41 l42 l43 l4 l5 l6 l7 l8 l9 l10 l11 l14 l15 l17 l18 H locs ls hm hLl hge hlk hP hD hS hl
      refine lv_iload_n hx hb dX10_row_2 rfl (lv_at hl 0 rfl) ?_
      refine lv_iconst (v := (-1)) hx hb dX10_row_3 (by decide) ?_
      refine lv_icmp_eq (tgt := 33) hx hb dX10_row_4 (by decide) (fun c_1 => ?_) (fun c_1 => ?_)
      · have nc_1 := eq_i c_1
        have lc_1 : ((-1) : Int32).toInt = -1 := by decide
        refine lv_iconst (v := 0) hx hb dX10_row_33 (by decide) ?_
        exact M_i hx hb hr hlocks (l1, l2, l40, l41, l42, l43, l4, l5, l6, l7, l8, l9, l10, l11, l14, l15, l17, l18) hP hD hK hS ⟨⟨_, rfl⟩, ⟨by omega, by omega⟩⟩ (by first | exact Nat.le_of_ble_eq_true rfl | (simp only [rm_X10_row]; omega)) (by first | exact Nat.le_of_ble_eq_true rfl | (simp only [rm_X10_row]; omega)) dX10_row_34
      · have nc_1 := ne_i c_1
        have lc_1 : ((-1) : Int32).toInt = -1 := by decide
        refine lv_aload_n hx hb dX10_row_7 rfl (lv_at hl 1 rfl) ?_
        refine lv_iload_n hx hb dX10_row_8 rfl (lv_at hl 0 rfl) ?_
        refine lv_iload_n hx hb dX10_row_9 rfl (lv_at hl 3 rfl) ?_
        refine M_V ⟨hx, hb, hml, hown, hts⟩ (m_X10_does l dC dI sa g h0 b V dp j dl (va_up (va_up (va_up (va_up (va_up (va_up i 1 l1) 2 l2) 40 l40) 41 l41) 42 l42) 43 l43) (va_up (va_up (va_up (va_up (va_up (va_up (va_up (va_up (va_up (va_up (va_up (va_up a 4 l4) 5 l5) 6 l6) 7 l7) 8 l8) 9 l9) 10 l10) 11 l11) 14 l14) 15 l15) 17 l17) 18 l18) kx ck _ hND hj (hlk.node c_1) hc30 hwt (show l40.toInt ≤ (i 39).toInt from by omega) IHR) (cwV 2 hts gX10_row_X10_does rfl rfl rfl (by decide +kernel) ⟨(by first | exact Nat.le_of_ble_eq_true rfl | (simp only [rm_X10_does, rm_X10_row]; omega)), (by first | exact Nat.le_of_ble_eq_true rfl | (simp only [rm_X10_does, rm_X10_row]; omega))⟩) hP hD hK hS hA hev rfl rfl rfl rfl hl.1 rfl (Nat.le_of_ble_eq_true rfl) dX10_row_10 ⟨(by first | exact Nat.le_of_ble_eq_true rfl | (simp only [rm_X10_row]; omega)), (by first | exact Nat.le_of_ble_eq_true rfl | (simp only [rm_X10_row]; omega))⟩ (fun r u H locs hw hP hD hS => ?_)
        obtain ⟨x1_2, x2_3, x40_4, x41_5, x42_6, x43_7, y4_8, y5_9, y6_10, y7_11, y8_12, y9_13, y10_14, y11_15, y14_16, y15_17, y17_18, y18_19⟩ := u
        have hw : (∃ z : Int32, r = some (.int z) ∧ (z = 0 → l40.toInt < x40_4.toInt)) ∧ (l40.toInt ≤ x40_4.toInt ∧ x40_4.toInt ≤ (i 39).toInt) := hw
        obtain ⟨⟨z_21, rfl, hz_z_21⟩, hw_20⟩ := hw
        have hP : va_P (dC, dI) vwCl (mw g h0 b (va_up (va_up (va_up (va_up (va_up (va_up i 1 x1_2) 2 x2_3) 40 x40_4) 41 x41_5) 42 x42_6) 43 x43_7) (va_up (va_up (va_up (va_up (va_up (va_up (va_up (va_up (va_up (va_up (va_up (va_up a 4 y4_8) 5 y5_9) 6 y6_10) 7 y7_11) 8 y8_12) 9 y9_13) 10 y10_14) 11 y11_15) 14 y14_16) 15 y15_17) 17 y17_18) 18 y18_19)) _ := hP
        have hD : va_D _ (mw g h0 b (va_up (va_up (va_up (va_up (va_up (va_up i 1 x1_2) 2 x2_3) 40 x40_4) 41 x41_5) 42 x42_6) 43 x43_7) (va_up (va_up (va_up (va_up (va_up (va_up (va_up (va_up (va_up (va_up (va_up (va_up a 4 y4_8) 5 y5_9) 6 y6_10) 7 y7_11) 8 y8_12) 9 y9_13) 10 y10_14) 11 y11_15) 14 y14_16) 15 y15_17) 17 y17_18) 18 y18_19)) := hD
        refine W.eq (g2 := F0 m 13 ls [.int z_21]) rfl ?_
        refine lv_istore (lv' := [(4, .int z_21), (3, .int kx), (0, .ref h0), (1, .int hn), (2, .int ck)]) hx hb dX10_row_13 hl (by decide) rfl (fun ls hl => ?_)
        refine lv_iload hx hb dX10_row_15 (lv_at hl 0 rfl) ?_
        refine lv_if_eq (tgt := 23) hx hb dX10_row_17 (by decide) (fun c_22 => ?_) (fun c_22 => ?_)
        · have nc_22 := eq_i c_22
          have lc_22 : (0 : Int32).toInt = 0 := by decide
          refine lv_aload_n hx hb dX10_row_23 rfl (lv_at hl 2 rfl) ?_
          refine va_get (D := (dC, dI)) (ci := 10) (v := .ref (b 33)) (C := RX10) (T := TX10) (N := 51) hx hb hts inw_X10_row_10 hown hK hP 0 rfl rfl 33 (by decide) (hts (.fieldLink RX10 81 "VatHouseModel" "next" "[I") (by decide +kernel)) (fun _ h9 => h9) rfl dX10_row_24 ?_
          refine lv_iload_n hx hb dX10_row_27 rfl (lv_at hl 1 rfl) ?_
          refine va_iald hx hb hK hP 23 22 rfl rfl (lk.in hND hlk c_1) dX10_row_28 ?_
          refine lv_topi (fun z_23 ez_23 => ?_)
          have ez_23 : z_23 = (a 33) kx.toNatClampNeg := ez_23
          refine lv_istore_n (lv' := [(3, .int z_23), (4, .int z_21), (0, .ref h0), (1, .int hn), (2, .int ck)]) hx hb dX10_row_29 rfl hl (by decide) rfl (fun ls hl => ?_)
          refine lv_goto (tgt := 2) hx hb dX10_row_30 (by decide) ?_
          exact ih z_23 x1_2 x2_3 x40_4 x41_5 x42_6 x43_7 y4_8 y5_9 y6_10 y7_11 y8_12 y9_13 y10_14 y11_15 y14_16 y15_17 y17_18 y18_19 _ _ _ (by have h9 := hz_z_21 c_22; omega) (by omega) (by omega) (lk.next hND hlk c_1 ez_23) hP hD hS (lv_sub hl [0, 2, 3, 4] rfl)
        · have nc_22 := ne_i c_22
          have lc_22 : (0 : Int32).toInt = 0 := by decide
          refine lv_iload hx hb dX10_row_20 (lv_at hl 0 rfl) ?_
          exact M_i hx hb hr hlocks (x1_2, x2_3, x40_4, x41_5, x42_6, x43_7, y4_8, y5_9, y6_10, y7_11, y8_12, y9_13, y10_14, y11_15, y14_16, y15_17, y17_18, y18_19) hP hD hK hS ⟨⟨_, rfl⟩, ⟨by omega, by omega⟩⟩ (by first | exact Nat.le_of_ble_eq_true rfl | (simp only [rm_X10_row]; omega)) (by first | exact Nat.le_of_ble_eq_true rfl | (simp only [rm_X10_row]; omega)) dX10_row_22
  exact lp (((i 39).toInt - (i 40).toInt).toNat + 1) hn (i 1) (i 2) (i 40) (i 41) (i 42) (i 43) (a 4) (a 5) (a 6) (a 7) (a 8) (a 9) (a 10) (a 11) (a 14) (a 15) (a 17) (a 18) _ _ _ (by omega) (by omega) (by omega) (hlk0) hP hD hS (lv_sub hl [0, 1, 2, 3] rfl)

theorem X10_row_all (l : Launch) (dC : Nat → ClassId) (dI : Nat → Nat → Nat) (sa : Nat → Nat) (g : Nat → Nat) (h0 : Nat) (b : Nat → Nat) (V : Nat → Prop) (dp : Nat → Nat) : ∀ (j dl : Nat), dl + j = 9 → ∀ (i : Nat → Int32) (a : Nat → Nat → Int32) (hn : Int32) (ck : Int32) (sz : Nat) (hND : ND V dp (a 26) (a 27) (a 31) (a 32) (a 33)) (hlk0 : lk V dp dl hn) (hc30 : vp_in ck 30) (hwt : 1 ≤ ((a 13) ck.toNatClampNeg).toInt ∧ ((a 13) ck.toNatClampNeg).toInt ≤ 50) (hL : (i 40).toInt ≤ (i 39).toInt), CT l dC dI sa yX10_row wsX10_row (rm_X10_row V dp j dl) [.ref h0, .int hn, .int ck] (mw g h0 b i a) (tyM g) sz (fun (r : Option Value) (u : Int32 × Int32 × Int32 × Int32 × Int32 × Int32 × (Nat → Int32) × (Nat → Int32) × (Nat → Int32) × (Nat → Int32) × (Nat → Int32) × (Nat → Int32) × (Nat → Int32) × (Nat → Int32) × (Nat → Int32) × (Nat → Int32) × (Nat → Int32) × (Nat → Int32)) => match u with | (x1, x2, x40, x41, x42, x43, y4, y5, y6, y7, y8, y9, y10, y11, y14, y15, y17, y18) => (∃ z : Int32, r = some (.int z)) ∧ ((i 40).toInt ≤ x40.toInt ∧ x40.toInt ≤ (i 39).toInt)) (fun (u : Int32 × Int32 × Int32 × Int32 × Int32 × Int32 × (Nat → Int32) × (Nat → Int32) × (Nat → Int32) × (Nat → Int32) × (Nat → Int32) × (Nat → Int32) × (Nat → Int32) × (Nat → Int32) × (Nat → Int32) × (Nat → Int32) × (Nat → Int32) × (Nat → Int32)) => match u with | (x1, x2, x40, x41, x42, x43, y4, y5, y6, y7, y8, y9, y10, y11, y14, y15, y17, y18) => mw g h0 b (va_up (va_up (va_up (va_up (va_up (va_up i 1 x1) 2 x2) 40 x40) 41 x41) 42 x42) 43 x43) (va_up (va_up (va_up (va_up (va_up (va_up (va_up (va_up (va_up (va_up (va_up (va_up a 4 y4) 5 y5) 6 y6) 7 y7) 8 y8) 9 y9) 10 y10) 11 y11) 14 y14) 15 y15) 17 y17) 18 y18)) (fun _ => []) 0 0 := by
  intro j
  induction j with
  | zero => exact fun dl hj i a hn ck sz hND hlk hc hw hL => m_X10_row l dC dI sa g h0 b V dp 0 dl i a hn ck sz hND hj hlk hc hw hL (fun j' d' _ h => absurd h (by omega))
  | succ j ih =>
    exact fun dl hj i a hn ck sz hND hlk hc hw hL => m_X10_row l dC dI sa g h0 b V dp (j + 1) dl i a hn ck sz hND hj hlk hc hw hL (fun j' d' hd' h => by
      obtain rfl : j = j' := by omega
      exact ih d' hd')

abbrev rm_X10_run : Room := { frames := 68, cells := 0, slots := 0, locals := 1624 }
theorem inw_X10_run_10 : ∀ w ∈ wsX100, w ∈ wsX10_run := by decide +kernel
set_option maxHeartbeats 1000000 in
set_option maxRecDepth 100000 in
theorem m_X10_run (l : Launch) (dC : Nat → ClassId) (dI : Nat → Nat → Nat) (sa : Nat → Nat) (g : Nat → Nat) (h0 : Nat) (b : Nat → Nat) (V : Nat → Prop) (dp : Nat → Nat) (i : Nat → Int32) (a : Nat → Nat → Int32) (rr : Int32) (ck : Int32) (li : Int32) (sz : Nat) (hCI : CI (i 12) (a 13)) (hND : ND V dp (a 26) (a 27) (a 31) (a 32) (a 33)) (hFI : 0 ≤ rr.toInt → rr.toInt < 8 → (a 34) rr.toNatClampNeg = -2 ∨ lk V dp 0 ((a 34) rr.toNatClampNeg)) : CT l dC dI sa yX10_run wsX10_run rm_X10_run [.ref h0, .int rr, .int ck, .int li] (mw g h0 b i a) (tyM g) sz (fun (r : Option Value) (u : Int32 × Int32 × Int32 × Int32 × Int32 × Int32 × Int32 × Int32 × Int32 × Int32 × (Nat → Int32) × (Nat → Int32) × (Nat → Int32) × (Nat → Int32) × (Nat → Int32) × (Nat → Int32) × (Nat → Int32) × (Nat → Int32) × (Nat → Int32) × (Nat → Int32) × (Nat → Int32) × (Nat → Int32)) => match u with | (x0, x1, x2, x39, x40, x41, x42, x43, x44, x45, y4, y5, y6, y7, y8, y9, y10, y11, y14, y15, y17, y18) => (∃ z : Int32, r = some (.int z)) ∧ (True)) (fun (u : Int32 × Int32 × Int32 × Int32 × Int32 × Int32 × Int32 × Int32 × Int32 × Int32 × (Nat → Int32) × (Nat → Int32) × (Nat → Int32) × (Nat → Int32) × (Nat → Int32) × (Nat → Int32) × (Nat → Int32) × (Nat → Int32) × (Nat → Int32) × (Nat → Int32) × (Nat → Int32) × (Nat → Int32)) => match u with | (x0, x1, x2, x39, x40, x41, x42, x43, x44, x45, y4, y5, y6, y7, y8, y9, y10, y11, y14, y15, y17, y18) => mw g h0 b (va_up (va_up (va_up (va_up (va_up (va_up (va_up (va_up (va_up (va_up i 0 x0) 1 x1) 2 x2) 39 x39) 40 x40) 41 x41) 42 x42) 43 x43) 44 x44) 45 x45) (va_up (va_up (va_up (va_up (va_up (va_up (va_up (va_up (va_up (va_up (va_up (va_up a 4 y4) 5 y5) 6 y6) 7 y7) 8 y8) 9 y9) 10 y10) 11 y11) 14 y14) 15 y15) 17 y17) 18 y18)) (fun _ => []) 0 0 := by
  refine CT.start (cc := cX10_run) (maxL := 5) (ret := (some .int)) (by decide) rfl (Nat.le_of_ble_eq_true rfl) ?_
  intro p e s m below meth c ls hst hP hK hD hev hS hl
  obtain ⟨hx, hb, hr, hml, hts, hown, hlocks, hin⟩ := hst
  have hown : s.vm.findClass RX10 = some m.cls := hown
  have hA : ∀ q : Nat, s.heap.size ≤ q → va_A (mw g h0 b i a) s.heap.size q := fun _ h => Or.inr h
  have hl : lv_has ls 5 [(0, .ref h0), (1, .int rr), (2, .int ck), (3, .int li)] := hl
  refine lv_aload_n hx hb dX10_run_0 rfl (lv_at hl 0 rfl) ?_
  refine lv_iload_n hx hb dX10_run_1 rfl (lv_at hl 2 rfl) ?_
  refine M_V ⟨hx, hb, hml, hown, hts⟩ (m_X10_isCloth l dC dI sa g h0 b i a ck _ ) (cwV 1 hts gX10_run_X10_isCloth rfl rfl rfl (by decide +kernel) ⟨Nat.le_of_ble_eq_true rfl, Nat.le_of_ble_eq_true rfl⟩) hP hD hK hS hA hev rfl rfl rfl rfl hl.1 rfl (Nat.le_of_ble_eq_true rfl) dX10_run_2 ⟨(Nat.le_of_ble_eq_true rfl), (Nat.le_of_ble_eq_true rfl)⟩ (fun r u H locs hw hP hD hS => ?_)
  obtain ⟨x0_1, rfl⟩ : ∃ z, z = u := ⟨_, rfl⟩
  have hw : ((r = some (.int 0) ∧ (True)) ∨ (r = some (.int 1) ∧ (0 ≤ ck.toInt ∧ ck.toInt < (i 12).toInt))) ∧ (True) := hw
  obtain ⟨⟨rfl, hz2_3⟩ | ⟨rfl, hz2_3⟩, hw_2⟩ := hw
  · have hP : va_P (dC, dI) vwCl (mw g h0 b (va_up i 0 x0_1) a) _ := hP
    have hD : va_D _ (mw g h0 b (va_up i 0 x0_1) a) := hD
    refine W.eq (g2 := F0 m 5 ls [.int 0]) rfl ?_
    refine lv_if_ne (tgt := 10) hx hb dX10_run_5 (by decide) (fun c_4 => absurd c_4 (by decide)) (fun _ => ?_)
    refine lv_iconst (v := 0) hx hb dX10_run_8 (by decide) ?_
    exact M_i hx hb hr hlocks (x0_1, (i 1), (i 2), (i 39), (i 40), (i 41), (i 42), (i 43), (i 44), (i 45), (a 4), (a 5), (a 6), (a 7), (a 8), (a 9), (a 10), (a 11), (a 14), (a 15), (a 17), (a 18)) hP hD hK hS ⟨⟨_, rfl⟩, trivial⟩ (Nat.le_of_ble_eq_true rfl) (Nat.le_of_ble_eq_true rfl) dX10_run_9
  · have hP : va_P (dC, dI) vwCl (mw g h0 b (va_up i 0 x0_1) a) _ := hP
    have hD : va_D _ (mw g h0 b (va_up i 0 x0_1) a) := hD
    refine W.eq (g2 := F0 m 5 ls [.int 1]) rfl ?_
    obtain ⟨hc30, hwt⟩ := hCI.at hz2_3
    refine lv_if_ne (tgt := 10) hx hb dX10_run_5 (by decide) (fun _ => ?_) (fun c_5 => absurd c_5 (by decide))
    refine lv_iload_n hx hb dX10_run_10 rfl (lv_at hl 1 rfl) ?_
    refine lv_if_lt (tgt := 50) hx hb dX10_run_11 (by decide) (fun c_6 => ?_) (fun c_6 => ?_)
    · have nc_6 := lt_i c_6
      have lc_6 : (0 : Int32).toInt = 0 := by decide
      refine lv_iconst (v := (-1)) hx hb dX10_run_50 (by decide) ?_
      exact M_i hx hb hr hlocks (x0_1, (i 1), (i 2), (i 39), (i 40), (i 41), (i 42), (i 43), (i 44), (i 45), (a 4), (a 5), (a 6), (a 7), (a 8), (a 9), (a 10), (a 11), (a 14), (a 15), (a 17), (a 18)) hP hD hK hS ⟨⟨_, rfl⟩, trivial⟩ (Nat.le_of_ble_eq_true rfl) (Nat.le_of_ble_eq_true rfl) dX10_run_51
    · have nc_6 := nlt_i c_6
      have lc_6 : (0 : Int32).toInt = 0 := by decide
      refine lv_iload_n hx hb dX10_run_14 rfl (lv_at hl 1 rfl) ?_
      refine lv_bipush (v := 8) hx hb dX10_run_15 (by decide) ?_
      refine lv_icmp_ge (tgt := 50) hx hb dX10_run_17 (by decide) (fun c_7 => ?_) (fun c_7 => ?_)
      · have nc_7 := le_i c_7
        have lc_7 : (8 : Int32).toInt = 8 := by decide
        refine lv_iconst (v := (-1)) hx hb dX10_run_50 (by decide) ?_
        exact M_i hx hb hr hlocks (x0_1, (i 1), (i 2), (i 39), (i 40), (i 41), (i 42), (i 43), (i 44), (i 45), (a 4), (a 5), (a 6), (a 7), (a 8), (a 9), (a 10), (a 11), (a 14), (a 15), (a 17), (a 18)) hP hD hK hS ⟨⟨_, rfl⟩, trivial⟩ (Nat.le_of_ble_eq_true rfl) (Nat.le_of_ble_eq_true rfl) dX10_run_51
      · have nc_7 := nle_i c_7
        have lc_7 : (8 : Int32).toInt = 8 := by decide
        refine lv_aload_n hx hb dX10_run_20 rfl (lv_at hl 0 rfl) ?_
        refine va_get (D := (dC, dI)) (ci := 10) (v := .ref (b 34)) (C := RX10) (T := TX10) (N := 51) hx hb hts inw_X10_run_10 hown hK hP 0 rfl rfl 34 (by decide) (hts (.fieldLink RX10 84 "VatHouseModel" "first" "[I") (by decide +kernel)) (fun _ h9 => h9) rfl dX10_run_21 ?_
        refine lv_iload_n hx hb dX10_run_24 rfl (lv_at hl 1 rfl) ?_
        refine va_iald hx hb hK hP 24 23 rfl rfl (in_i (by omega) (by omega)) dX10_run_25 ?_
        refine lv_topi (fun z_8 ez_8 => ?_)
        have ez_8 : z_8 = (a 34) rr.toNatClampNeg := ez_8
        refine lv_iconst (v := (-1)) hx hb dX10_run_26 (by decide) ?_
        refine lv_icmp_eq (tgt := 50) hx hb dX10_run_27 (by decide) (fun c_9 => ?_) (fun c_9 => ?_)
        · have nc_9 := eq_i c_9
          have lc_9 : ((-1) : Int32).toInt = -1 := by decide
          refine lv_iconst (v := (-1)) hx hb dX10_run_50 (by decide) ?_
          exact M_i hx hb hr hlocks (x0_1, (i 1), (i 2), (i 39), (i 40), (i 41), (i 42), (i 43), (i 44), (i 45), (a 4), (a 5), (a 6), (a 7), (a 8), (a 9), (a 10), (a 11), (a 14), (a 15), (a 17), (a 18)) hP hD hK hS ⟨⟨_, rfl⟩, trivial⟩ (Nat.le_of_ble_eq_true rfl) (Nat.le_of_ble_eq_true rfl) dX10_run_51
        · have nc_9 := ne_i c_9
          have lc_9 : ((-1) : Int32).toInt = -1 := by decide
          refine lv_aload_n hx hb dX10_run_30 rfl (lv_at hl 0 rfl) ?_
          refine lv_iload_n hx hb dX10_run_31 rfl (lv_at hl 2 rfl) ?_
          refine M_V ⟨hx, hb, hml, hown, hts⟩ (m_X10_isDry l dC dI sa g h0 b (va_up i 0 x0_1) a ck _ hc30) (cwV 1 hts gX10_run_X10_isDry rfl rfl rfl (by decide +kernel) ⟨Nat.le_of_ble_eq_true rfl, Nat.le_of_ble_eq_true rfl⟩) hP hD hK hS hA hev rfl rfl rfl rfl hl.1 rfl (Nat.le_of_ble_eq_true rfl) dX10_run_32 ⟨(Nat.le_of_ble_eq_true rfl), (Nat.le_of_ble_eq_true rfl)⟩ (fun r u H locs hw hP hD hS => ?_)
          have hw : (∃ z : Int32, r = some (.int z) ∧ (z = 0 ∨ z = 1)) ∧ (True) := hw
          obtain ⟨⟨z_11, rfl, hz_z_11⟩, hw_10⟩ := hw
          have hP : va_P (dC, dI) vwCl (mw g h0 b (va_up i 0 x0_1) a) _ := hP
          have hD : va_D _ (mw g h0 b (va_up i 0 x0_1) a) := hD
          refine W.eq (g2 := F0 m 35 ls [.int z_11]) rfl ?_
          refine lv_if_ne (tgt := 50) hx hb dX10_run_35 (by decide) (fun c_12 => ?_) (fun c_12 => ?_)
          · have nc_12 := ne_i c_12
            have lc_12 : (0 : Int32).toInt = 0 := by decide
            refine lv_iconst (v := (-1)) hx hb dX10_run_50 (by decide) ?_
            exact M_i hx hb hr hlocks (x0_1, (i 1), (i 2), (i 39), (i 40), (i 41), (i 42), (i 43), (i 44), (i 45), (a 4), (a 5), (a 6), (a 7), (a 8), (a 9), (a 10), (a 11), (a 14), (a 15), (a 17), (a 18)) hP hD hK hS ⟨⟨_, rfl⟩, trivial⟩ (Nat.le_of_ble_eq_true rfl) (Nat.le_of_ble_eq_true rfl) dX10_run_51
          · have nc_12 := eq_i c_12
            have lc_12 : (0 : Int32).toInt = 0 := by decide
            refine lv_iload_n hx hb dX10_run_38 rfl (lv_at hl 3 rfl) ?_
            refine lv_iconst (v := 1) hx hb dX10_run_39 (by decide) ?_
            refine lv_icmp_lt (tgt := 50) hx hb dX10_run_40 (by decide) (fun c_13 => ?_) (fun c_13 => ?_)
            · have nc_13 := lt_i c_13
              have lc_13 : (1 : Int32).toInt = 1 := by decide
              refine lv_iconst (v := (-1)) hx hb dX10_run_50 (by decide) ?_
              exact M_i hx hb hr hlocks (x0_1, (i 1), (i 2), (i 39), (i 40), (i 41), (i 42), (i 43), (i 44), (i 45), (a 4), (a 5), (a 6), (a 7), (a 8), (a 9), (a 10), (a 11), (a 14), (a 15), (a 17), (a 18)) hP hD hK hS ⟨⟨_, rfl⟩, trivial⟩ (Nat.le_of_ble_eq_true rfl) (Nat.le_of_ble_eq_true rfl) dX10_run_51
            · have nc_13 := nlt_i c_13
              have lc_13 : (1 : Int32).toInt = 1 := by decide
              refine lv_iload_n hx hb dX10_run_43 rfl (lv_at hl 3 rfl) ?_
              refine lv_sipush (v := 5000) hx hb dX10_run_44 (by decide) ?_
              refine lv_icmp_le (tgt := 52) hx hb dX10_run_47 (by decide) (fun c_14 => ?_) (fun c_14 => ?_)
              · have nc_14 := le_i c_14
                have lc_14 : (5000 : Int32).toInt = 5000 := by decide
                refine lv_aload_n hx hb dX10_run_52 rfl (lv_at hl 0 rfl) ?_
                refine lv_iload_n hx hb dX10_run_53 rfl (lv_at hl 3 rfl) ?_
                refine va_put (D := (dC, dI)) (ci := 10) (v := .int li) (ty := .int) (C := RX10) (T := TX10) (N := 51) hx hb hts inw_X10_run_10 tyX10 tyX10_ok nmX10 hown hK hP hD hS 0 rfl rfl 39 (by decide) (hts (.fieldLink RX10 290 "VatHouseModel" "limit" "I") (by decide +kernel)) (fun _ h9 => h9) rfl (by decide +kernel) rfl rfl (Nat.le_of_ble_eq_true rfl) dX10_run_54 (fun H locs hP hD hS => ?_)
                have hP : va_P (dC, dI) vwCl (mw g h0 b (va_up (va_up i 0 x0_1) 39 li) a) _ := hP
                have hD : va_D _ (mw g h0 b (va_up (va_up i 0 x0_1) 39 li) a) := hD
                refine lv_aload_n hx hb dX10_run_57 rfl (lv_at hl 0 rfl) ?_
                refine lv_iconst (v := 0) hx hb dX10_run_58 (by decide) ?_
                refine va_put (D := (dC, dI)) (ci := 10) (v := .int 0) (ty := .int) (C := RX10) (T := TX10) (N := 51) hx hb hts inw_X10_run_10 tyX10 tyX10_ok nmX10 hown hK hP hD hS 0 rfl rfl 40 (by decide) (hts (.fieldLink RX10 287 "VatHouseModel" "counted" "I") (by decide +kernel)) (fun _ h9 => h9) rfl (by decide +kernel) rfl rfl (Nat.le_of_ble_eq_true rfl) dX10_run_59 (fun H locs hP hD hS => ?_)
                have hP : va_P (dC, dI) vwCl (mw g h0 b (va_up (va_up (va_up i 0 x0_1) 39 li) 40 (0 : Int32)) a) _ := hP
                have hD : va_D _ (mw g h0 b (va_up (va_up (va_up i 0 x0_1) 39 li) 40 (0 : Int32)) a) := hD
                refine lv_aload_n hx hb dX10_run_62 rfl (lv_at hl 0 rfl) ?_
                refine lv_iconst (v := 0) hx hb dX10_run_63 (by decide) ?_
                refine va_put (D := (dC, dI)) (ci := 10) (v := .int 0) (ty := .int) (C := RX10) (T := TX10) (N := 51) hx hb hts inw_X10_run_10 tyX10 tyX10_ok nmX10 hown hK hP hD hS 0 rfl rfl 41 (by decide) (hts (.fieldLink RX10 313 "VatHouseModel" "ranDips" "I") (by decide +kernel)) (fun _ h9 => h9) rfl (by decide +kernel) rfl rfl (Nat.le_of_ble_eq_true rfl) dX10_run_64 (fun H locs hP hD hS => ?_)
                have hP : va_P (dC, dI) vwCl (mw g h0 b (va_up (va_up (va_up (va_up i 0 x0_1) 39 li) 40 (0 : Int32)) 41 (0 : Int32)) a) _ := hP
                have hD : va_D _ (mw g h0 b (va_up (va_up (va_up (va_up i 0 x0_1) 39 li) 40 (0 : Int32)) 41 (0 : Int32)) a) := hD
                refine lv_aload_n hx hb dX10_run_67 rfl (lv_at hl 0 rfl) ?_
                refine lv_iconst (v := 0) hx hb dX10_run_68 (by decide) ?_
                refine va_put (D := (dC, dI)) (ci := 10) (v := .int 0) (ty := .int) (C := RX10) (T := TX10) (N := 51) hx hb hts inw_X10_run_10 tyX10 tyX10_ok nmX10 hown hK hP hD hS 0 rfl rfl 42 (by decide) (hts (.fieldLink RX10 310 "VatHouseModel" "ranGrains" "I") (by decide +kernel)) (fun _ h9 => h9) rfl (by decide +kernel) rfl rfl (Nat.le_of_ble_eq_true rfl) dX10_run_69 (fun H locs hP hD hS => ?_)
                have hP : va_P (dC, dI) vwCl (mw g h0 b (va_up (va_up (va_up (va_up (va_up i 0 x0_1) 39 li) 40 (0 : Int32)) 41 (0 : Int32)) 42 (0 : Int32)) a) _ := hP
                have hD : va_D _ (mw g h0 b (va_up (va_up (va_up (va_up (va_up i 0 x0_1) 39 li) 40 (0 : Int32)) 41 (0 : Int32)) 42 (0 : Int32)) a) := hD
                refine lv_aload_n hx hb dX10_run_72 rfl (lv_at hl 0 rfl) ?_
                refine lv_iconst (v := 0) hx hb dX10_run_73 (by decide) ?_
                refine va_put (D := (dC, dI)) (ci := 10) (v := .int 0) (ty := .int) (C := RX10) (T := TX10) (N := 51) hx hb hts inw_X10_run_10 tyX10 tyX10_ok nmX10 hown hK hP hD hS 0 rfl rfl 43 (by decide) (hts (.fieldLink RX10 316 "VatHouseModel" "ranHours" "I") (by decide +kernel)) (fun _ h9 => h9) rfl (by decide +kernel) rfl rfl (Nat.le_of_ble_eq_true rfl) dX10_run_74 (fun H locs hP hD hS => ?_)
                have hP : va_P (dC, dI) vwCl (mw g h0 b (va_up (va_up (va_up (va_up (va_up (va_up i 0 x0_1) 39 li) 40 (0 : Int32)) 41 (0 : Int32)) 42 (0 : Int32)) 43 (0 : Int32)) a) _ := hP
                have hD : va_D _ (mw g h0 b (va_up (va_up (va_up (va_up (va_up (va_up i 0 x0_1) 39 li) 40 (0 : Int32)) 41 (0 : Int32)) 42 (0 : Int32)) 43 (0 : Int32)) a) := hD
                refine lv_aload_n hx hb dX10_run_77 rfl (lv_at hl 0 rfl) ?_
                refine va_get (D := (dC, dI)) (ci := 10) (v := .ref (b 34)) (C := RX10) (T := TX10) (N := 51) hx hb hts inw_X10_run_10 hown hK hP 0 rfl rfl 34 (by decide) (hts (.fieldLink RX10 84 "VatHouseModel" "first" "[I") (by decide +kernel)) (fun _ h9 => h9) rfl dX10_run_78 ?_
                refine lv_iload_n hx hb dX10_run_81 rfl (lv_at hl 1 rfl) ?_
                refine va_iald hx hb hK hP 24 23 rfl rfl (in_i (by omega) (by omega)) dX10_run_82 ?_
                refine lv_topi (fun z_15 ez_15 => ?_)
                have ez_15 : z_15 = (a 34) rr.toNatClampNeg := ez_15
                refine lv_bipush (v := (-2)) hx hb dX10_run_83 (by decide) ?_
                refine lv_icmp_ne (tgt := 92) hx hb dX10_run_85 (by decide) (fun c_16 => ?_) (fun c_16 => ?_)
                · have nc_16 := ne_i c_16
                  have lc_16 : ((-2) : Int32).toInt = -2 := by decide
                  refine lv_aload_n hx hb dX10_run_92 rfl (lv_at hl 0 rfl) ?_
                  refine lv_aload_n hx hb dX10_run_93 rfl (lv_at hl 0 rfl) ?_
                  refine va_get (D := (dC, dI)) (ci := 10) (v := .ref (b 34)) (C := RX10) (T := TX10) (N := 51) hx hb hts inw_X10_run_10 hown hK hP 0 rfl rfl 34 (by decide) (hts (.fieldLink RX10 84 "VatHouseModel" "first" "[I") (by decide +kernel)) (fun _ h9 => h9) rfl dX10_run_94 ?_
                  refine lv_iload_n hx hb dX10_run_97 rfl (lv_at hl 1 rfl) ?_
                  refine va_iald hx hb hK hP 24 23 rfl rfl (in_i (by omega) (by omega)) dX10_run_98 ?_
                  refine lv_topi (fun z_17 ez_17 => ?_)
                  have ez_17 : z_17 = (a 34) rr.toNatClampNeg := ez_17
                  refine lv_iload_n hx hb dX10_run_99 rfl (lv_at hl 2 rfl) ?_
                  have h00 : (0 : Int32).toInt = 0 := by decide
                  refine M_V ⟨hx, hb, hml, hown, hts⟩ (X10_row_all l dC dI sa g h0 b V dp 9 0 rfl (va_up (va_up (va_up (va_up (va_up (va_up i 0 x0_1) 39 li) 40 (0 : Int32)) 41 (0 : Int32)) 42 (0 : Int32)) 43 (0 : Int32)) a z_17 ck _ hND (by rw [ez_17]; exact (hFI (by omega) (by omega)).resolve_left (fun h9 => c_16 (ez_15.trans h9))) hc30 hwt (show (0 : Int32).toInt ≤ li.toInt from by omega)) (cwV 2 hts gX10_run_X10_row rfl rfl rfl (by decide +kernel) ⟨Nat.le_of_ble_eq_true rfl, Nat.le_of_ble_eq_true rfl⟩) hP hD hK hS hA hev rfl rfl rfl rfl hl.1 rfl (Nat.le_of_ble_eq_true rfl) dX10_run_100 ⟨(Nat.le_of_ble_eq_true rfl), (Nat.le_of_ble_eq_true rfl)⟩ (fun r u H locs hw hP hD hS => ?_)
                  obtain ⟨x1_18, x2_19, x40_20, x41_21, x42_22, x43_23, y4_24, y5_25, y6_26, y7_27, y8_28, y9_29, y10_30, y11_31, y14_32, y15_33, y17_34, y18_35⟩ := u
                  have hw : (∃ z : Int32, r = some (.int z)) ∧ ((0 : Int32).toInt ≤ x40_20.toInt ∧ x40_20.toInt ≤ li.toInt) := hw
                  obtain ⟨⟨z_37, rfl⟩, hw_36⟩ := hw
                  have hP : va_P (dC, dI) vwCl (mw g h0 b (va_up (va_up (va_up (va_up (va_up (va_up (va_up (va_up i 0 x0_1) 1 x1_18) 2 x2_19) 39 li) 40 x40_20) 41 x41_21) 42 x42_22) 43 x43_23) (va_up (va_up (va_up (va_up (va_up (va_up (va_up (va_up (va_up (va_up (va_up (va_up a 4 y4_24) 5 y5_25) 6 y6_26) 7 y7_27) 8 y8_28) 9 y9_29) 10 y10_30) 11 y11_31) 14 y14_32) 15 y15_33) 17 y17_34) 18 y18_35)) _ := hP
                  have hD : va_D _ (mw g h0 b (va_up (va_up (va_up (va_up (va_up (va_up (va_up (va_up i 0 x0_1) 1 x1_18) 2 x2_19) 39 li) 40 x40_20) 41 x41_21) 42 x42_22) 43 x43_23) (va_up (va_up (va_up (va_up (va_up (va_up (va_up (va_up (va_up (va_up (va_up (va_up a 4 y4_24) 5 y5_25) 6 y6_26) 7 y7_27) 8 y8_28) 9 y9_29) 10 y10_30) 11 y11_31) 14 y14_32) 15 y15_33) 17 y17_34) 18 y18_35)) := hD
                  refine W.eq (g2 := F0 m 103 ls [.int z_37]) rfl ?_
                  refine lv_istore (lv' := [(4, .int z_37), (0, .ref h0), (1, .int rr), (2, .int ck), (3, .int li)]) hx hb dX10_run_103 hl (by decide) rfl (fun ls hl => ?_)
                  refine lv_aload_n hx hb dX10_run_105 rfl (lv_at hl 1 rfl) ?_
                  refine lv_iload hx hb dX10_run_106 (lv_at hl 0 rfl) ?_
                  refine lv_sipush (v := 1000) hx hb dX10_run_108 (by decide) ?_
                  refine lv_icmp_ne (tgt := 118) hx hb dX10_run_111 (by decide) (fun c_38 => ?_) (fun c_38 => ?_)
                  · have nc_38 := ne_i c_38
                    have lc_38 : (1000 : Int32).toInt = 1000 := by decide
                    refine lv_iload hx hb dX10_run_118 (lv_at hl 0 rfl) ?_
                    refine va_put (D := (dC, dI)) (ci := 10) (v := .int z_37) (ty := .int) (C := RX10) (T := TX10) (N := 51) hx hb hts inw_X10_run_10 tyX10 tyX10_ok nmX10 hown hK hP hD hS 0 rfl rfl 45 (by decide) (hts (.fieldLink RX10 328 "VatHouseModel" "failure" "I") (by decide +kernel)) (fun _ h9 => h9) rfl (by decide +kernel) rfl rfl (Nat.le_of_ble_eq_true rfl) dX10_run_120 (fun H locs hP hD hS => ?_)
                    have hP : va_P (dC, dI) vwCl (mw g h0 b (va_up (va_up (va_up (va_up (va_up (va_up (va_up (va_up (va_up i 0 x0_1) 1 x1_18) 2 x2_19) 39 li) 40 x40_20) 41 x41_21) 42 x42_22) 43 x43_23) 45 z_37) (va_up (va_up (va_up (va_up (va_up (va_up (va_up (va_up (va_up (va_up (va_up (va_up a 4 y4_24) 5 y5_25) 6 y6_26) 7 y7_27) 8 y8_28) 9 y9_29) 10 y10_30) 11 y11_31) 14 y14_32) 15 y15_33) 17 y17_34) 18 y18_35)) _ := hP
                    have hD : va_D _ (mw g h0 b (va_up (va_up (va_up (va_up (va_up (va_up (va_up (va_up (va_up i 0 x0_1) 1 x1_18) 2 x2_19) 39 li) 40 x40_20) 41 x41_21) 42 x42_22) 43 x43_23) 45 z_37) (va_up (va_up (va_up (va_up (va_up (va_up (va_up (va_up (va_up (va_up (va_up (va_up a 4 y4_24) 5 y5_25) 6 y6_26) 7 y7_27) 8 y8_28) 9 y9_29) 10 y10_30) 11 y11_31) 14 y14_32) 15 y15_33) 17 y17_34) 18 y18_35)) := hD
                    refine lv_aload_n hx hb dX10_run_123 rfl (lv_at hl 1 rfl) ?_
                    refine lv_iload hx hb dX10_run_124 (lv_at hl 0 rfl) ?_
                    refine lv_if_ne (tgt := 133) hx hb dX10_run_126 (by decide) (fun c_39 => ?_) (fun c_39 => ?_)
                    · have nc_39 := ne_i c_39
                      have lc_39 : (0 : Int32).toInt = 0 := by decide
                      refine lv_iload hx hb dX10_run_133 (lv_at hl 0 rfl) ?_
                      refine lv_sipush (v := 1000) hx hb dX10_run_135 (by decide) ?_
                      refine lv_icmp_ne (tgt := 145) hx hb dX10_run_138 (by decide) (fun c_40 => ?_) (fun c_40 => ?_)
                      · have nc_40 := ne_i c_40
                        have lc_40 : (1000 : Int32).toInt = 1000 := by decide
                        refine lv_iconst (v := 1) hx hb dX10_run_145 (by decide) ?_
                        refine va_put (D := (dC, dI)) (ci := 10) (v := .int 1) (ty := .int) (C := RX10) (T := TX10) (N := 51) hx hb hts inw_X10_run_10 tyX10 tyX10_ok nmX10 hown hK hP hD hS 0 rfl rfl 44 (by decide) (hts (.fieldLink RX10 90 "VatHouseModel" "ran" "I") (by decide +kernel)) (fun _ h9 => h9) rfl (by decide +kernel) rfl rfl (Nat.le_of_ble_eq_true rfl) dX10_run_146 (fun H locs hP hD hS => ?_)
                        have hP : va_P (dC, dI) vwCl (mw g h0 b (va_up (va_up (va_up (va_up (va_up (va_up (va_up (va_up (va_up (va_up i 0 x0_1) 1 x1_18) 2 x2_19) 39 li) 40 x40_20) 41 x41_21) 42 x42_22) 43 x43_23) 44 (1 : Int32)) 45 z_37) (va_up (va_up (va_up (va_up (va_up (va_up (va_up (va_up (va_up (va_up (va_up (va_up a 4 y4_24) 5 y5_25) 6 y6_26) 7 y7_27) 8 y8_28) 9 y9_29) 10 y10_30) 11 y11_31) 14 y14_32) 15 y15_33) 17 y17_34) 18 y18_35)) _ := hP
                        have hD : va_D _ (mw g h0 b (va_up (va_up (va_up (va_up (va_up (va_up (va_up (va_up (va_up (va_up i 0 x0_1) 1 x1_18) 2 x2_19) 39 li) 40 x40_20) 41 x41_21) 42 x42_22) 43 x43_23) 44 (1 : Int32)) 45 z_37) (va_up (va_up (va_up (va_up (va_up (va_up (va_up (va_up (va_up (va_up (va_up (va_up a 4 y4_24) 5 y5_25) 6 y6_26) 7 y7_27) 8 y8_28) 9 y9_29) 10 y10_30) 11 y11_31) 14 y14_32) 15 y15_33) 17 y17_34) 18 y18_35)) := hD
                        refine lv_aload_n hx hb dX10_run_149 rfl (lv_at hl 1 rfl) ?_
                        refine va_get (D := (dC, dI)) (ci := 10) (v := .int (1 : Int32)) (C := RX10) (T := TX10) (N := 51) hx hb hts inw_X10_run_10 hown hK hP 0 rfl rfl 44 (by decide) (hts (.fieldLink RX10 90 "VatHouseModel" "ran" "I") (by decide +kernel)) (fun _ h9 => h9) rfl dX10_run_150 ?_
                        exact M_i hx hb hr hlocks (x0_1, x1_18, x2_19, li, x40_20, x41_21, x42_22, x43_23, (1 : Int32), z_37, y4_24, y5_25, y6_26, y7_27, y8_28, y9_29, y10_30, y11_31, y14_32, y15_33, y17_34, y18_35) hP hD hK hS ⟨⟨_, rfl⟩, trivial⟩ (Nat.le_of_ble_eq_true rfl) (Nat.le_of_ble_eq_true rfl) dX10_run_153
                      · have nc_40 := eq_i c_40
                        have lc_40 : (1000 : Int32).toInt = 1000 := by decide
                        refine lv_iconst (v := 2) hx hb dX10_run_141 (by decide) ?_
                        refine lv_goto (tgt := 146) hx hb dX10_run_142 (by decide) ?_
                        refine va_put (D := (dC, dI)) (ci := 10) (v := .int 2) (ty := .int) (C := RX10) (T := TX10) (N := 51) hx hb hts inw_X10_run_10 tyX10 tyX10_ok nmX10 hown hK hP hD hS 0 rfl rfl 44 (by decide) (hts (.fieldLink RX10 90 "VatHouseModel" "ran" "I") (by decide +kernel)) (fun _ h9 => h9) rfl (by decide +kernel) rfl rfl (Nat.le_of_ble_eq_true rfl) dX10_run_146 (fun H locs hP hD hS => ?_)
                        have hP : va_P (dC, dI) vwCl (mw g h0 b (va_up (va_up (va_up (va_up (va_up (va_up (va_up (va_up (va_up (va_up i 0 x0_1) 1 x1_18) 2 x2_19) 39 li) 40 x40_20) 41 x41_21) 42 x42_22) 43 x43_23) 44 (2 : Int32)) 45 z_37) (va_up (va_up (va_up (va_up (va_up (va_up (va_up (va_up (va_up (va_up (va_up (va_up a 4 y4_24) 5 y5_25) 6 y6_26) 7 y7_27) 8 y8_28) 9 y9_29) 10 y10_30) 11 y11_31) 14 y14_32) 15 y15_33) 17 y17_34) 18 y18_35)) _ := hP
                        have hD : va_D _ (mw g h0 b (va_up (va_up (va_up (va_up (va_up (va_up (va_up (va_up (va_up (va_up i 0 x0_1) 1 x1_18) 2 x2_19) 39 li) 40 x40_20) 41 x41_21) 42 x42_22) 43 x43_23) 44 (2 : Int32)) 45 z_37) (va_up (va_up (va_up (va_up (va_up (va_up (va_up (va_up (va_up (va_up (va_up (va_up a 4 y4_24) 5 y5_25) 6 y6_26) 7 y7_27) 8 y8_28) 9 y9_29) 10 y10_30) 11 y11_31) 14 y14_32) 15 y15_33) 17 y17_34) 18 y18_35)) := hD
                        refine lv_aload_n hx hb dX10_run_149 rfl (lv_at hl 1 rfl) ?_
                        refine va_get (D := (dC, dI)) (ci := 10) (v := .int (2 : Int32)) (C := RX10) (T := TX10) (N := 51) hx hb hts inw_X10_run_10 hown hK hP 0 rfl rfl 44 (by decide) (hts (.fieldLink RX10 90 "VatHouseModel" "ran" "I") (by decide +kernel)) (fun _ h9 => h9) rfl dX10_run_150 ?_
                        exact M_i hx hb hr hlocks (x0_1, x1_18, x2_19, li, x40_20, x41_21, x42_22, x43_23, (2 : Int32), z_37, y4_24, y5_25, y6_26, y7_27, y8_28, y9_29, y10_30, y11_31, y14_32, y15_33, y17_34, y18_35) hP hD hK hS ⟨⟨_, rfl⟩, trivial⟩ (Nat.le_of_ble_eq_true rfl) (Nat.le_of_ble_eq_true rfl) dX10_run_153
                    · have nc_39 := eq_i c_39
                      have lc_39 : (0 : Int32).toInt = 0 := by decide
                      refine lv_iconst (v := 0) hx hb dX10_run_129 (by decide) ?_
                      refine lv_goto (tgt := 146) hx hb dX10_run_130 (by decide) ?_
                      refine va_put (D := (dC, dI)) (ci := 10) (v := .int 0) (ty := .int) (C := RX10) (T := TX10) (N := 51) hx hb hts inw_X10_run_10 tyX10 tyX10_ok nmX10 hown hK hP hD hS 0 rfl rfl 44 (by decide) (hts (.fieldLink RX10 90 "VatHouseModel" "ran" "I") (by decide +kernel)) (fun _ h9 => h9) rfl (by decide +kernel) rfl rfl (Nat.le_of_ble_eq_true rfl) dX10_run_146 (fun H locs hP hD hS => ?_)
                      have hP : va_P (dC, dI) vwCl (mw g h0 b (va_up (va_up (va_up (va_up (va_up (va_up (va_up (va_up (va_up (va_up i 0 x0_1) 1 x1_18) 2 x2_19) 39 li) 40 x40_20) 41 x41_21) 42 x42_22) 43 x43_23) 44 (0 : Int32)) 45 z_37) (va_up (va_up (va_up (va_up (va_up (va_up (va_up (va_up (va_up (va_up (va_up (va_up a 4 y4_24) 5 y5_25) 6 y6_26) 7 y7_27) 8 y8_28) 9 y9_29) 10 y10_30) 11 y11_31) 14 y14_32) 15 y15_33) 17 y17_34) 18 y18_35)) _ := hP
                      have hD : va_D _ (mw g h0 b (va_up (va_up (va_up (va_up (va_up (va_up (va_up (va_up (va_up (va_up i 0 x0_1) 1 x1_18) 2 x2_19) 39 li) 40 x40_20) 41 x41_21) 42 x42_22) 43 x43_23) 44 (0 : Int32)) 45 z_37) (va_up (va_up (va_up (va_up (va_up (va_up (va_up (va_up (va_up (va_up (va_up (va_up a 4 y4_24) 5 y5_25) 6 y6_26) 7 y7_27) 8 y8_28) 9 y9_29) 10 y10_30) 11 y11_31) 14 y14_32) 15 y15_33) 17 y17_34) 18 y18_35)) := hD
                      refine lv_aload_n hx hb dX10_run_149 rfl (lv_at hl 1 rfl) ?_
                      refine va_get (D := (dC, dI)) (ci := 10) (v := .int (0 : Int32)) (C := RX10) (T := TX10) (N := 51) hx hb hts inw_X10_run_10 hown hK hP 0 rfl rfl 44 (by decide) (hts (.fieldLink RX10 90 "VatHouseModel" "ran" "I") (by decide +kernel)) (fun _ h9 => h9) rfl dX10_run_150 ?_
                      exact M_i hx hb hr hlocks (x0_1, x1_18, x2_19, li, x40_20, x41_21, x42_22, x43_23, (0 : Int32), z_37, y4_24, y5_25, y6_26, y7_27, y8_28, y9_29, y10_30, y11_31, y14_32, y15_33, y17_34, y18_35) hP hD hK hS ⟨⟨_, rfl⟩, trivial⟩ (Nat.le_of_ble_eq_true rfl) (Nat.le_of_ble_eq_true rfl) dX10_run_153
                  · have nc_38 := eq_i c_38
                    have lc_38 : (1000 : Int32).toInt = 1000 := by decide
                    refine lv_iconst (v := 0) hx hb dX10_run_114 (by decide) ?_
                    refine lv_goto (tgt := 120) hx hb dX10_run_115 (by decide) ?_
                    refine va_put (D := (dC, dI)) (ci := 10) (v := .int 0) (ty := .int) (C := RX10) (T := TX10) (N := 51) hx hb hts inw_X10_run_10 tyX10 tyX10_ok nmX10 hown hK hP hD hS 0 rfl rfl 45 (by decide) (hts (.fieldLink RX10 328 "VatHouseModel" "failure" "I") (by decide +kernel)) (fun _ h9 => h9) rfl (by decide +kernel) rfl rfl (Nat.le_of_ble_eq_true rfl) dX10_run_120 (fun H locs hP hD hS => ?_)
                    have hP : va_P (dC, dI) vwCl (mw g h0 b (va_up (va_up (va_up (va_up (va_up (va_up (va_up (va_up (va_up i 0 x0_1) 1 x1_18) 2 x2_19) 39 li) 40 x40_20) 41 x41_21) 42 x42_22) 43 x43_23) 45 (0 : Int32)) (va_up (va_up (va_up (va_up (va_up (va_up (va_up (va_up (va_up (va_up (va_up (va_up a 4 y4_24) 5 y5_25) 6 y6_26) 7 y7_27) 8 y8_28) 9 y9_29) 10 y10_30) 11 y11_31) 14 y14_32) 15 y15_33) 17 y17_34) 18 y18_35)) _ := hP
                    have hD : va_D _ (mw g h0 b (va_up (va_up (va_up (va_up (va_up (va_up (va_up (va_up (va_up i 0 x0_1) 1 x1_18) 2 x2_19) 39 li) 40 x40_20) 41 x41_21) 42 x42_22) 43 x43_23) 45 (0 : Int32)) (va_up (va_up (va_up (va_up (va_up (va_up (va_up (va_up (va_up (va_up (va_up (va_up a 4 y4_24) 5 y5_25) 6 y6_26) 7 y7_27) 8 y8_28) 9 y9_29) 10 y10_30) 11 y11_31) 14 y14_32) 15 y15_33) 17 y17_34) 18 y18_35)) := hD
                    refine lv_aload_n hx hb dX10_run_123 rfl (lv_at hl 1 rfl) ?_
                    refine lv_iload hx hb dX10_run_124 (lv_at hl 0 rfl) ?_
                    refine lv_if_ne (tgt := 133) hx hb dX10_run_126 (by decide) (fun c_41 => ?_) (fun c_41 => ?_)
                    · have nc_41 := ne_i c_41
                      have lc_41 : (0 : Int32).toInt = 0 := by decide
                      refine lv_iload hx hb dX10_run_133 (lv_at hl 0 rfl) ?_
                      refine lv_sipush (v := 1000) hx hb dX10_run_135 (by decide) ?_
                      refine lv_icmp_ne (tgt := 145) hx hb dX10_run_138 (by decide) (fun c_42 => ?_) (fun c_42 => ?_)
                      · have nc_42 := ne_i c_42
                        have lc_42 : (1000 : Int32).toInt = 1000 := by decide
                        refine lv_iconst (v := 1) hx hb dX10_run_145 (by decide) ?_
                        refine va_put (D := (dC, dI)) (ci := 10) (v := .int 1) (ty := .int) (C := RX10) (T := TX10) (N := 51) hx hb hts inw_X10_run_10 tyX10 tyX10_ok nmX10 hown hK hP hD hS 0 rfl rfl 44 (by decide) (hts (.fieldLink RX10 90 "VatHouseModel" "ran" "I") (by decide +kernel)) (fun _ h9 => h9) rfl (by decide +kernel) rfl rfl (Nat.le_of_ble_eq_true rfl) dX10_run_146 (fun H locs hP hD hS => ?_)
                        have hP : va_P (dC, dI) vwCl (mw g h0 b (va_up (va_up (va_up (va_up (va_up (va_up (va_up (va_up (va_up (va_up i 0 x0_1) 1 x1_18) 2 x2_19) 39 li) 40 x40_20) 41 x41_21) 42 x42_22) 43 x43_23) 44 (1 : Int32)) 45 (0 : Int32)) (va_up (va_up (va_up (va_up (va_up (va_up (va_up (va_up (va_up (va_up (va_up (va_up a 4 y4_24) 5 y5_25) 6 y6_26) 7 y7_27) 8 y8_28) 9 y9_29) 10 y10_30) 11 y11_31) 14 y14_32) 15 y15_33) 17 y17_34) 18 y18_35)) _ := hP
                        have hD : va_D _ (mw g h0 b (va_up (va_up (va_up (va_up (va_up (va_up (va_up (va_up (va_up (va_up i 0 x0_1) 1 x1_18) 2 x2_19) 39 li) 40 x40_20) 41 x41_21) 42 x42_22) 43 x43_23) 44 (1 : Int32)) 45 (0 : Int32)) (va_up (va_up (va_up (va_up (va_up (va_up (va_up (va_up (va_up (va_up (va_up (va_up a 4 y4_24) 5 y5_25) 6 y6_26) 7 y7_27) 8 y8_28) 9 y9_29) 10 y10_30) 11 y11_31) 14 y14_32) 15 y15_33) 17 y17_34) 18 y18_35)) := hD
                        refine lv_aload_n hx hb dX10_run_149 rfl (lv_at hl 1 rfl) ?_
                        refine va_get (D := (dC, dI)) (ci := 10) (v := .int (1 : Int32)) (C := RX10) (T := TX10) (N := 51) hx hb hts inw_X10_run_10 hown hK hP 0 rfl rfl 44 (by decide) (hts (.fieldLink RX10 90 "VatHouseModel" "ran" "I") (by decide +kernel)) (fun _ h9 => h9) rfl dX10_run_150 ?_
                        exact M_i hx hb hr hlocks (x0_1, x1_18, x2_19, li, x40_20, x41_21, x42_22, x43_23, (1 : Int32), (0 : Int32), y4_24, y5_25, y6_26, y7_27, y8_28, y9_29, y10_30, y11_31, y14_32, y15_33, y17_34, y18_35) hP hD hK hS ⟨⟨_, rfl⟩, trivial⟩ (Nat.le_of_ble_eq_true rfl) (Nat.le_of_ble_eq_true rfl) dX10_run_153
                      · have nc_42 := eq_i c_42
                        have lc_42 : (1000 : Int32).toInt = 1000 := by decide
                        refine lv_iconst (v := 2) hx hb dX10_run_141 (by decide) ?_
                        refine lv_goto (tgt := 146) hx hb dX10_run_142 (by decide) ?_
                        refine va_put (D := (dC, dI)) (ci := 10) (v := .int 2) (ty := .int) (C := RX10) (T := TX10) (N := 51) hx hb hts inw_X10_run_10 tyX10 tyX10_ok nmX10 hown hK hP hD hS 0 rfl rfl 44 (by decide) (hts (.fieldLink RX10 90 "VatHouseModel" "ran" "I") (by decide +kernel)) (fun _ h9 => h9) rfl (by decide +kernel) rfl rfl (Nat.le_of_ble_eq_true rfl) dX10_run_146 (fun H locs hP hD hS => ?_)
                        have hP : va_P (dC, dI) vwCl (mw g h0 b (va_up (va_up (va_up (va_up (va_up (va_up (va_up (va_up (va_up (va_up i 0 x0_1) 1 x1_18) 2 x2_19) 39 li) 40 x40_20) 41 x41_21) 42 x42_22) 43 x43_23) 44 (2 : Int32)) 45 (0 : Int32)) (va_up (va_up (va_up (va_up (va_up (va_up (va_up (va_up (va_up (va_up (va_up (va_up a 4 y4_24) 5 y5_25) 6 y6_26) 7 y7_27) 8 y8_28) 9 y9_29) 10 y10_30) 11 y11_31) 14 y14_32) 15 y15_33) 17 y17_34) 18 y18_35)) _ := hP
                        have hD : va_D _ (mw g h0 b (va_up (va_up (va_up (va_up (va_up (va_up (va_up (va_up (va_up (va_up i 0 x0_1) 1 x1_18) 2 x2_19) 39 li) 40 x40_20) 41 x41_21) 42 x42_22) 43 x43_23) 44 (2 : Int32)) 45 (0 : Int32)) (va_up (va_up (va_up (va_up (va_up (va_up (va_up (va_up (va_up (va_up (va_up (va_up a 4 y4_24) 5 y5_25) 6 y6_26) 7 y7_27) 8 y8_28) 9 y9_29) 10 y10_30) 11 y11_31) 14 y14_32) 15 y15_33) 17 y17_34) 18 y18_35)) := hD
                        refine lv_aload_n hx hb dX10_run_149 rfl (lv_at hl 1 rfl) ?_
                        refine va_get (D := (dC, dI)) (ci := 10) (v := .int (2 : Int32)) (C := RX10) (T := TX10) (N := 51) hx hb hts inw_X10_run_10 hown hK hP 0 rfl rfl 44 (by decide) (hts (.fieldLink RX10 90 "VatHouseModel" "ran" "I") (by decide +kernel)) (fun _ h9 => h9) rfl dX10_run_150 ?_
                        exact M_i hx hb hr hlocks (x0_1, x1_18, x2_19, li, x40_20, x41_21, x42_22, x43_23, (2 : Int32), (0 : Int32), y4_24, y5_25, y6_26, y7_27, y8_28, y9_29, y10_30, y11_31, y14_32, y15_33, y17_34, y18_35) hP hD hK hS ⟨⟨_, rfl⟩, trivial⟩ (Nat.le_of_ble_eq_true rfl) (Nat.le_of_ble_eq_true rfl) dX10_run_153
                    · have nc_41 := eq_i c_41
                      have lc_41 : (0 : Int32).toInt = 0 := by decide
                      refine lv_iconst (v := 0) hx hb dX10_run_129 (by decide) ?_
                      refine lv_goto (tgt := 146) hx hb dX10_run_130 (by decide) ?_
                      refine va_put (D := (dC, dI)) (ci := 10) (v := .int 0) (ty := .int) (C := RX10) (T := TX10) (N := 51) hx hb hts inw_X10_run_10 tyX10 tyX10_ok nmX10 hown hK hP hD hS 0 rfl rfl 44 (by decide) (hts (.fieldLink RX10 90 "VatHouseModel" "ran" "I") (by decide +kernel)) (fun _ h9 => h9) rfl (by decide +kernel) rfl rfl (Nat.le_of_ble_eq_true rfl) dX10_run_146 (fun H locs hP hD hS => ?_)
                      have hP : va_P (dC, dI) vwCl (mw g h0 b (va_up (va_up (va_up (va_up (va_up (va_up (va_up (va_up (va_up (va_up i 0 x0_1) 1 x1_18) 2 x2_19) 39 li) 40 x40_20) 41 x41_21) 42 x42_22) 43 x43_23) 44 (0 : Int32)) 45 (0 : Int32)) (va_up (va_up (va_up (va_up (va_up (va_up (va_up (va_up (va_up (va_up (va_up (va_up a 4 y4_24) 5 y5_25) 6 y6_26) 7 y7_27) 8 y8_28) 9 y9_29) 10 y10_30) 11 y11_31) 14 y14_32) 15 y15_33) 17 y17_34) 18 y18_35)) _ := hP
                      have hD : va_D _ (mw g h0 b (va_up (va_up (va_up (va_up (va_up (va_up (va_up (va_up (va_up (va_up i 0 x0_1) 1 x1_18) 2 x2_19) 39 li) 40 x40_20) 41 x41_21) 42 x42_22) 43 x43_23) 44 (0 : Int32)) 45 (0 : Int32)) (va_up (va_up (va_up (va_up (va_up (va_up (va_up (va_up (va_up (va_up (va_up (va_up a 4 y4_24) 5 y5_25) 6 y6_26) 7 y7_27) 8 y8_28) 9 y9_29) 10 y10_30) 11 y11_31) 14 y14_32) 15 y15_33) 17 y17_34) 18 y18_35)) := hD
                      refine lv_aload_n hx hb dX10_run_149 rfl (lv_at hl 1 rfl) ?_
                      refine va_get (D := (dC, dI)) (ci := 10) (v := .int (0 : Int32)) (C := RX10) (T := TX10) (N := 51) hx hb hts inw_X10_run_10 hown hK hP 0 rfl rfl 44 (by decide) (hts (.fieldLink RX10 90 "VatHouseModel" "ran" "I") (by decide +kernel)) (fun _ h9 => h9) rfl dX10_run_150 ?_
                      exact M_i hx hb hr hlocks (x0_1, x1_18, x2_19, li, x40_20, x41_21, x42_22, x43_23, (0 : Int32), (0 : Int32), y4_24, y5_25, y6_26, y7_27, y8_28, y9_29, y10_30, y11_31, y14_32, y15_33, y17_34, y18_35) hP hD hK hS ⟨⟨_, rfl⟩, trivial⟩ (Nat.le_of_ble_eq_true rfl) (Nat.le_of_ble_eq_true rfl) dX10_run_153
                · have nc_16 := eq_i c_16
                  have lc_16 : ((-2) : Int32).toInt = -2 := by decide
                  refine lv_iconst (v := 0) hx hb dX10_run_88 (by decide) ?_
                  refine lv_goto (tgt := 103) hx hb dX10_run_89 (by decide) ?_
                  refine lv_istore (lv' := [(4, .int 0), (0, .ref h0), (1, .int rr), (2, .int ck), (3, .int li)]) hx hb dX10_run_103 hl (by decide) rfl (fun ls hl => ?_)
                  refine lv_aload_n hx hb dX10_run_105 rfl (lv_at hl 1 rfl) ?_
                  refine lv_iload hx hb dX10_run_106 (lv_at hl 0 rfl) ?_
                  refine lv_sipush (v := 1000) hx hb dX10_run_108 (by decide) ?_
                  refine lv_icmp_ne (tgt := 118) hx hb dX10_run_111 (by decide) (fun _ => ?_) (fun c_43 => absurd c_43 (by decide))
                  refine lv_iload hx hb dX10_run_118 (lv_at hl 0 rfl) ?_
                  refine va_put (D := (dC, dI)) (ci := 10) (v := .int 0) (ty := .int) (C := RX10) (T := TX10) (N := 51) hx hb hts inw_X10_run_10 tyX10 tyX10_ok nmX10 hown hK hP hD hS 0 rfl rfl 45 (by decide) (hts (.fieldLink RX10 328 "VatHouseModel" "failure" "I") (by decide +kernel)) (fun _ h9 => h9) rfl (by decide +kernel) rfl rfl (Nat.le_of_ble_eq_true rfl) dX10_run_120 (fun H locs hP hD hS => ?_)
                  have hP : va_P (dC, dI) vwCl (mw g h0 b (va_up (va_up (va_up (va_up (va_up (va_up (va_up i 0 x0_1) 39 li) 40 (0 : Int32)) 41 (0 : Int32)) 42 (0 : Int32)) 43 (0 : Int32)) 45 (0 : Int32)) a) _ := hP
                  have hD : va_D _ (mw g h0 b (va_up (va_up (va_up (va_up (va_up (va_up (va_up i 0 x0_1) 39 li) 40 (0 : Int32)) 41 (0 : Int32)) 42 (0 : Int32)) 43 (0 : Int32)) 45 (0 : Int32)) a) := hD
                  refine lv_aload_n hx hb dX10_run_123 rfl (lv_at hl 1 rfl) ?_
                  refine lv_iload hx hb dX10_run_124 (lv_at hl 0 rfl) ?_
                  refine lv_if_ne (tgt := 133) hx hb dX10_run_126 (by decide) (fun c_44 => absurd c_44 (by decide)) (fun _ => ?_)
                  refine lv_iconst (v := 0) hx hb dX10_run_129 (by decide) ?_
                  refine lv_goto (tgt := 146) hx hb dX10_run_130 (by decide) ?_
                  refine va_put (D := (dC, dI)) (ci := 10) (v := .int 0) (ty := .int) (C := RX10) (T := TX10) (N := 51) hx hb hts inw_X10_run_10 tyX10 tyX10_ok nmX10 hown hK hP hD hS 0 rfl rfl 44 (by decide) (hts (.fieldLink RX10 90 "VatHouseModel" "ran" "I") (by decide +kernel)) (fun _ h9 => h9) rfl (by decide +kernel) rfl rfl (Nat.le_of_ble_eq_true rfl) dX10_run_146 (fun H locs hP hD hS => ?_)
                  have hP : va_P (dC, dI) vwCl (mw g h0 b (va_up (va_up (va_up (va_up (va_up (va_up (va_up (va_up i 0 x0_1) 39 li) 40 (0 : Int32)) 41 (0 : Int32)) 42 (0 : Int32)) 43 (0 : Int32)) 44 (0 : Int32)) 45 (0 : Int32)) a) _ := hP
                  have hD : va_D _ (mw g h0 b (va_up (va_up (va_up (va_up (va_up (va_up (va_up (va_up i 0 x0_1) 39 li) 40 (0 : Int32)) 41 (0 : Int32)) 42 (0 : Int32)) 43 (0 : Int32)) 44 (0 : Int32)) 45 (0 : Int32)) a) := hD
                  refine lv_aload_n hx hb dX10_run_149 rfl (lv_at hl 1 rfl) ?_
                  refine va_get (D := (dC, dI)) (ci := 10) (v := .int (0 : Int32)) (C := RX10) (T := TX10) (N := 51) hx hb hts inw_X10_run_10 hown hK hP 0 rfl rfl 44 (by decide) (hts (.fieldLink RX10 90 "VatHouseModel" "ran" "I") (by decide +kernel)) (fun _ h9 => h9) rfl dX10_run_150 ?_
                  exact M_i hx hb hr hlocks (x0_1, (i 1), (i 2), li, (0 : Int32), (0 : Int32), (0 : Int32), (0 : Int32), (0 : Int32), (0 : Int32), (a 4), (a 5), (a 6), (a 7), (a 8), (a 9), (a 10), (a 11), (a 14), (a 15), (a 17), (a 18)) hP hD hK hS ⟨⟨_, rfl⟩, trivial⟩ (Nat.le_of_ble_eq_true rfl) (Nat.le_of_ble_eq_true rfl) dX10_run_153
              · have nc_14 := nle_i c_14
                have lc_14 : (5000 : Int32).toInt = 5000 := by decide
                refine lv_iconst (v := (-1)) hx hb dX10_run_50 (by decide) ?_
                exact M_i hx hb hr hlocks (x0_1, (i 1), (i 2), (i 39), (i 40), (i 41), (i 42), (i 43), (i 44), (i 45), (a 4), (a 5), (a 6), (a 7), (a 8), (a 9), (a 10), (a 11), (a 14), (a 15), (a 17), (a 18)) hP hD hK hS ⟨⟨_, rfl⟩, trivial⟩ (Nat.le_of_ble_eq_true rfl) (Nat.le_of_ble_eq_true rfl) dX10_run_51
