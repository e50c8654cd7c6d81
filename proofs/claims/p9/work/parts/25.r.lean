/-! the banks of the recipes -/
def shf (b x : Int32) : Int32 := if x = -1 then -1 else x + b
def CP (r d : Nat) (b : Int32) (kd on inr oth nx kd' on' inr' oth' nx' : Nat → Int32) : Prop :=
  (∀ k : Nat, k < 300 * r ∨ 300 * r + d ≤ k → kd' k = kd k ∧ on' k = on k ∧ inr' k = inr k ∧ oth' k = oth k ∧ nx' k = nx k) ∧
  ∀ m : Nat, m < d → kd' (300 * r + m) = kd (2400 + m) ∧ on' (300 * r + m) = on (2400 + m) ∧ inr' (300 * r + m) = shf b (inr (2400 + m)) ∧ oth' (300 * r + m) = shf b (oth (2400 + m)) ∧ nx' (300 * r + m) = shf b (nx (2400 + m))
def BV (r : Nat) (mn : Nat → Int32) (k : Nat) : Prop := 300 * r ≤ k ∧ (k : Int) < 300 * r + (mn r).toInt
def BI (kd on inr oth nx fi mn : Nat → Int32) : Prop := ∀ r : Nat, r < 8 → 0 ≤ (mn r).toInt ∧ (mn r).toInt ≤ 300 ∧ ∃ dp : Nat → Nat, ND (BV r mn) dp kd on inr oth nx ∧ (fi r = -2 ∨ lk (BV r mn) dp 0 (fi r))
section CPS
variable {r d : Nat} {b : Int32} {kd on inr oth nx kd' on' inr' oth' nx' : Nat → Int32}
theorem CP.z : CP r 0 b kd on inr oth nx kd on inr oth nx := ⟨fun _ _ => ⟨rfl, rfl, rfl, rfl, rfl⟩, fun m h => absurd h (by omega)⟩
theorem CP.step (h : CP r d b kd on inr oth nx kd' on' inr' oth' nx') (hr : r < 8) {x1 x2 x3 x4 x5 : Nat} (e1 : x1 = 300 * r + d) (e2 : x2 = 300 * r + d) (e3 : x3 = 300 * r + d) (e4 : x4 = 300 * r + d) (e5 : x5 = 300 * r + d) {v1 v2 v3 v4 v5 : Int32} (h1 : v1 = kd' (2400 + d)) (h2 : v2 = on' (2400 + d)) (h3 : v3 = shf b (inr' (2400 + d))) (h4 : v4 = shf b (oth' (2400 + d))) (h5 : v5 = shf b (nx' (2400 + d))) :
    CP r (d + 1) b kd on inr oth nx (upd kd' x1 v1) (upd on' x2 v2) (upd inr' x3 v3) (upd oth' x4 v4) (upd nx' x5 v5) := by
  subst e1; subst e2; subst e3; subst e4; subst e5
  obtain ⟨g1, g2, g3, g4, g5⟩ := h.1 (2400 + d) (Or.inr (by omega))
  refine ⟨fun k hk => ?_, fun m hm => ?_⟩
  · have hne : k ≠ 300 * r + d := by omega
    simp only [upd, hne, if_false]
    exact h.1 k (by omega)
  · by_cases e : m = d
    · subst e
      simp only [upd, if_true]
      exact ⟨h1.trans g1, h2.trans g2, by rw [h3, g3], by rw [h4, g4], by rw [h5, g5]⟩
    · have hne : 300 * r + m ≠ 300 * r + d := by omega
      simp only [upd, hne, if_false]
      exact h.2 m (by omega)
theorem ND.same {V : Nat → Prop} {dp : Nat → Nat} (h : ND V dp kd on inr oth nx) (he : ∀ k : Nat, V k → kd' k = kd k ∧ on' k = on k ∧ inr' k = inr k ∧ oth' k = oth k ∧ nx' k = nx k) : ND V dp kd' on' inr' oth' nx' := fun k hk => by
  obtain ⟨g1, g2, g3, g4, g5⟩ := he k hk
  rw [g1, g2, g3, g4, g5]
  exact h k hk
theorem BI.lf {fi mn : Nat → Int32} (h : BI kd on inr oth nx fi mn) (hL : LF kd on inr oth nx kd' on' inr' oth' nx') : BI kd' on' inr' oth' nx' fi mn := fun r hr => by
  obtain ⟨h1, h2, dp, h3, h4⟩ := h r hr
  exact ⟨h1, h2, dp, h3.same (fun k hk => hL k (by have := hk.2; omega)), h4⟩
theorem PN_zero {dp : Nat → Nat} : PN 0 dp kd on inr oth nx := ⟨by decide, by decide, fun k hk => by
  have h1 := hk.1
  have h2 := hk.2
  have : (0 : Int32).toInt = 0 := by decide
  omega⟩
end CPS
theorem BI.put {r : Nat} (hr : r < 8) {rr b N z0 v : Int32} {dp : Nat → Nat} {a1 a2 a3 a4 a5 c1 c2 c3 c4 c5 l1 l2 l3 l4 l5 fi mn : Nat → Int32} (hB : BI a1 a2 a3 a4 a5 fi mn) (hL : LF a1 a2 a3 a4 a5 c1 c2 c3 c4 c5) (hN : PN N dp c1 c2 c3 c4 c5) (hC : CP r N.toInt.toNat b c1 c2 c3 c4 c5 l1 l2 l3 l4 l5) (hb : b.toInt = 300 * (r : Int) - 2400) (hk : lk (PV N) dp 0 z0) (hv : v = if z0 = -1 then -2 else z0 + b) (hrr : rr.toNatClampNeg = r) : BI l1 l2 l3 l4 l5 (upd fi rr.toNatClampNeg v) (upd mn rr.toNatClampNeg N) := by
  subst hrr
  obtain ⟨hN1, hN2, hN3⟩ := hN
  intro r2 hr2
  by_cases e : r2 = rr.toNatClampNeg
  · subst e
    have em : upd mn rr.toNatClampNeg N rr.toNatClampNeg = N := if_pos rfl
    have ef : upd fi rr.toNatClampNeg v rr.toNatClampNeg = v := if_pos rfl
    have hlink : ∀ (dd : Nat) (x : Int32), lk (PV N) dp dd x → lk (BV rr.toNatClampNeg (upd mn rr.toNatClampNeg N)) (fun k => dp (k + 2400 - 300 * rr.toNatClampNeg)) dd (shf b x) := by
      intro dd x hx
      rcases hx with hx | ⟨q, g1, g2, g3⟩
      · left
        rw [shf, if_pos hx]
      · right
        have q1 := g2.1
        have q2 := g2.2
        have hxi : x.toInt = (q : Int) := by rw [g1]; exact nI_toInt (by omega)
        have hne : ¬ x = -1 := fun h => by
          rw [h] at hxi
          have : (-1 : Int32).toInt = -1 := by decide
          omega
        refine ⟨q + 300 * rr.toNatClampNeg - 2400, ?_, ⟨by omega, by rw [em]; omega⟩, ?_⟩
        · rw [shf, if_neg hne]
          apply Int32.toInt_inj.mp
          rw [add_i (z := x + b) rfl (by omega) (by omega), nI_toInt (by omega), hxi, hb]
          omega
        · show dp (q + 300 * rr.toNatClampNeg - 2400 + 2400 - 300 * rr.toNatClampNeg) = dd
          rw [show q + 300 * rr.toNatClampNeg - 2400 + 2400 - 300 * rr.toNatClampNeg = q by omega]
          exact g3
    refine ⟨by rw [em]; exact hN1, by rw [em]; exact hN2, fun k => dp (k + 2400 - 300 * rr.toNatClampNeg), fun k hk2 => ?_, ?_⟩
    · have k1 := hk2.1
      have k2 := hk2.2
      rw [em] at k2
      obtain ⟨m, hm⟩ : ∃ m, k = 300 * rr.toNatClampNeg + m := ⟨k - 300 * rr.toNatClampNeg, by omega⟩
      subst hm
      have hmN : m < N.toInt.toNat := by omega
      obtain ⟨g1, g2, g3, g4, g5⟩ := hC.2 m hmN
      obtain ⟨n1, n2, n3, n4, n5, n6⟩ := hN3 (2400 + m) ⟨by omega, by omega⟩
      have ed : 300 * rr.toNatClampNeg + m + 2400 - 300 * rr.toNatClampNeg = 2400 + m := by omega
      rw [g1, g2, g3, g4, g5]
      show _ ∧ dp (300 * rr.toNatClampNeg + m + 2400 - 300 * rr.toNatClampNeg) ≤ 8 ∧ _ ∧ lk _ _ (dp (300 * rr.toNatClampNeg + m + 2400 - 300 * rr.toNatClampNeg) + 1) _ ∧ lk _ _ (dp (300 * rr.toNatClampNeg + m + 2400 - 300 * rr.toNatClampNeg) + 1) _ ∧ lk _ _ (dp (300 * rr.toNatClampNeg + m + 2400 - 300 * rr.toNatClampNeg)) _
      rw [ed]
      exact ⟨by omega, n2, n3, hlink _ _ n4, hlink _ _ n5, hlink _ _ n6⟩
    · rw [ef, hv]
      by_cases h1 : z0 = -1
      · left; rw [if_pos h1]
      · right
        have h2 := hlink 0 z0 hk
        rw [shf, if_neg h1] at h2
        rw [if_neg h1]
        exact h2
  · have em : upd mn rr.toNatClampNeg N r2 = mn r2 := if_neg e
    have ef : upd fi rr.toNatClampNeg v r2 = fi r2 := if_neg e
    have eV : BV r2 (upd mn rr.toNatClampNeg N) = BV r2 mn := by
      funext k
      show (300 * r2 ≤ k ∧ (k : Int) < 300 * r2 + (upd mn rr.toNatClampNeg N r2).toInt) = _
      rw [em]
      rfl
    obtain ⟨h1, h2, dp2, h3, h4⟩ := hB r2 hr2
    rw [em, ef, eV]
    refine ⟨h1, h2, dp2, h3.same (fun k hk2 => ?_), h4⟩
    have k1 := hk2.1
    have k2 := hk2.2
    have hout : k < 300 * rr.toNatClampNeg ∨ 300 * rr.toNatClampNeg + N.toInt.toNat ≤ k := by omega
    obtain ⟨g1, g2, g3, g4, g5⟩ := hC.1 k hout
    obtain ⟨f1, f2, f3, f4, f5⟩ := hL k (by omega)
    exact ⟨g1.trans f1, g2.trans f2, g3.trans f3, g4.trans f4, g5.trans f5⟩

theorem rc_nx {kx N : Int32} {n d : Nat} (hm : (2400 + N.toInt - kx.toInt).toNat < n + 1) (h : kx.toInt = 2400 + (d : Int)) (h2 : (d : Int) < N.toInt) (h3 : N.toInt ≤ 300 := by omega) : (2400 + N.toInt - (kx + 1).toInt).toNat < n := by
  have h5 := add_i (z := kx + 1) rfl (by have : (1 : Int32).toInt = 1 := by decide
                                         omega) (by have : (1 : Int32).toInt = 1 := by decide
                                                    omega)
  have : (1 : Int32).toInt = 1 := by decide
  omega
theorem rc_in {z kx b : Int32} {r d : Nat} (ez : z = kx + b) (h1 : kx.toInt = 2400 + (d : Int)) (h2 : b.toInt = 300 * (r : Int) - 2400) (hr : r < 8) (hd : d < 300) : z.toInt = 300 * (r : Int) + d ∧ z.toNatClampNeg = 300 * r + d ∧ vp_in z 2700 := by
  have h3 := add_i ez (by omega) (by omega)
  have h4 : z.toInt = 300 * (r : Int) + d := by omega
  have h5 := clamp_i (x := z) (by omega)
  exact ⟨h4, by omega, in_i (by omega) (by omega)⟩
theorem rc_ix {x : Int32} {q : Nat} (h0 : 0 ≤ x.toInt) (h : x.toInt = (q : Int)) : x.toNatClampNeg = q := by
  have h9 := clamp_i h0
  omega

abbrev rm_X10_recipe : Room := { frames := 96, cells := 0, slots := 0, locals := 2744 }
theorem inw_X10_recipe_10 : ∀ w ∈ wsX100, w ∈ wsX10_recipe := by decide +kernel
set_option maxHeartbeats 4000000 in
set_option maxRecDepth 100000 in
theorem m_X10_recipe (l : Launch) (dC : Nat → ClassId) (dI : Nat → Nat → Nat) (sa : Nat → Nat) (g : Nat → Nat) (h0 : Nat) (b : Nat → Nat) (i : Nat → Int32) (a : Nat → Nat → Int32) (rr : Int32) (nn : Int32) (sz : Nat) (hT2 : 0 ≤ (i 20).toInt ∧ (i 20).toInt ≤ 1500) (hBI : BI (a 26) (a 27) (a 31) (a 32) (a 33) (a 34) (a 35)) : CT l dC dI sa yX10_recipe wsX10_recipe rm_X10_recipe [.ref h0, .int rr, .int nn] (mw g h0 b i a) (tyM g) sz (fun (r : Option Value) (u : Int32 × Int32 × Int32 × Int32 × Int32 × Int32 × Int32 × Int32 × Int32 × Int32 × (Nat → Int32) × (Nat → Int32) × (Nat → Int32) × (Nat → Int32) × (Nat → Int32) × (Nat → Int32) × (Nat → Int32) × (Nat → Int32) × (Nat → Int32) × (Nat → Int32)) => match u with | (x0, x20, x21, x22, x23, x24, x25, x36, x37, x38, y26, y27, y28, y29, y30, y31, y32, y33, y34, y35) => (∃ z : Int32, r = some (.int z)) ∧ ((0 ≤ x20.toInt ∧ x20.toInt ≤ 1500) ∧ BI y26 y27 y31 y32 y33 y34 y35)) (fun (u : Int32 × Int32 × Int32 × Int32 × Int32 × Int32 × Int32 × Int32 × Int32 × Int32 × (Nat → Int32) × (Nat → Int32) × (Nat → Int32) × (Nat → Int32) × (Nat → Int32) × (Nat → Int32) × (Nat → Int32) × (Nat → Int32) × (Nat → Int32) × (Nat → Int32)) => match u with | (x0, x20, x21, x22, x23, x24, x25, x36, x37, x38, y26, y27, y28, y29, y30, y31, y32, y33, y34, y35) => mw g h0 b (va_up (va_up (va_up (va_up (va_up (va_up (va_up (va_up (va_up (va_up i 0 x0) 20 x20) 21 x21) 22 x22) 23 x23) 24 x24) 25 x25) 36 x36) 37 x37) 38 x38) (va_up (va_up (va_up (va_up (va_up (va_up (va_up (va_up (va_up (va_up a 26 y26) 27 y27) 28 y28) 29 y29) 30 y30) 31 y31) 32 y32) 33 y33) 34 y34) 35 y35)) (fun _ => []) 0 0 := by
  refine CT.start (cc := cX10_recipe) (maxL := 6) (ret := (some .int)) (by decide) rfl (Nat.le_of_ble_eq_true rfl) ?_
  intro p e s m below meth c ls hst hP hK hD hev hS hl
  obtain ⟨hx, hb, hr, hml, hts, hown, hlocks, hin⟩ := hst
  have hown : s.vm.findClass RX10 = some m.cls := hown
  have hA : ∀ q : Nat, s.heap.size ≤ q → va_A (mw g h0 b i a) s.heap.size q := fun _ h => Or.inr h
  have hl : lv_has ls 6 [(0, .ref h0), (1, .int rr), (2, .int nn)] := hl
  refine lv_aload_n hx hb dX10_recipe_0 rfl (lv_at hl 0 rfl) ?_
  refine lv_iconst (v := 0) hx hb dX10_recipe_1 (by decide) ?_
  refine va_put (D := (dC, dI)) (ci := 10) (v := .int 0) (ty := .int) (C := RX10) (T := TX10) (N := 51) hx hb hts inw_X10_recipe_10 tyX10 tyX10_ok nmX10 hown hK hP hD hS 0 rfl rfl 0 (by decide) (hts (.fieldLink RX10 105 "VatHouseModel" "thrown" "I") (by decide +kernel)) (fun _ h9 => h9) rfl (by decide +kernel) rfl rfl (Nat.le_of_ble_eq_true rfl) dX10_recipe_2 (fun H locs hP hD hS => ?_)
  have hP : va_P (dC, dI) vwCl (mw g h0 b (va_up i 0 (0 : Int32)) a) _ := hP
  have hD : va_D _ (mw g h0 b (va_up i 0 (0 : Int32)) a) := hD
  refine lv_aload_n hx hb dX10_recipe_5 rfl (lv_at hl 0 rfl) ?_
  refine lv_iload_n hx hb dX10_recipe_6 rfl (lv_at hl 1 rfl) ?_
  refine lv_if_lt (tgt := 32) hx hb dX10_recipe_7 (by decide) (fun c_1 => ?_) (fun c_1 => ?_)
  · have nc_1 := lt_i c_1
    have lc_1 : (0 : Int32).toInt = 0 := by decide
    refine lv_iconst (v := 0) hx hb dX10_recipe_32 (by decide) ?_
    refine lv_iconst (v := 1) hx hb dX10_recipe_33 (by decide) ?_
    refine M_V ⟨hx, hb, hml, hown, hts⟩ (m_X10_right l dC dI sa g h0 b (va_up i 0 (0 : Int32)) a (0 : Int32) (1 : Int32) _ (by decide)) (cwV 2 hts gX10_recipe_X10_right rfl rfl rfl (by decide +kernel) ⟨Nat.le_of_ble_eq_true rfl, Nat.le_of_ble_eq_true rfl⟩) hP hD hK hS hA hev rfl rfl rfl rfl hl.1 rfl (Nat.le_of_ble_eq_true rfl) dX10_recipe_34 ⟨(Nat.le_of_ble_eq_true rfl), (Nat.le_of_ble_eq_true rfl)⟩ (fun r u H locs hw hP hD hS => ?_)
    obtain ⟨x0_2, rfl⟩ : ∃ z, z = u := ⟨_, rfl⟩
    have hw : ((r = some (.int 0) ∧ (True)) ∨ (r = some (.int 1) ∧ (¬ (0 : Int32) = 0))) ∧ (True) := hw
    obtain ⟨⟨rfl, hz2_4⟩ | ⟨rfl, hz2_4⟩, hw_3⟩ := hw
    · have hP : va_P (dC, dI) vwCl (mw g h0 b (va_up i 0 x0_2) a) _ := hP
      have hD : va_D _ (mw g h0 b (va_up i 0 x0_2) a) := hD
      refine W.eq (g2 := F0 m 37 ls [.int 0]) rfl ?_
      refine lv_if_ne (tgt := 42) hx hb dX10_recipe_37 (by decide) (fun c_5 => absurd c_5 (by decide)) (fun _ => ?_)
      refine lv_iconst (v := 0) hx hb dX10_recipe_40 (by decide) ?_
      exact M_i hx hb hr hlocks (x0_2, (i 20), (i 21), (i 22), (i 23), (i 24), (i 25), (i 36), (i 37), (i 38), (a 26), (a 27), (a 28), (a 29), (a 30), (a 31), (a 32), (a 33), (a 34), (a 35)) hP hD hK hS ⟨⟨_, rfl⟩, ⟨hT2, hBI⟩⟩ (Nat.le_of_ble_eq_true rfl) (Nat.le_of_ble_eq_true rfl) dX10_recipe_41
    · have hP : va_P (dC, dI) vwCl (mw g h0 b (va_up i 0 x0_2) a) _ := hP
      have hD : va_D _ (mw g h0 b (va_up i 0 x0_2) a) := hD
      refine W.eq (g2 := F0 m 37 ls [.int 1]) rfl ?_
      exact absurd rfl hz2_4
  · have nc_1 := nlt_i c_1
    have lc_1 : (0 : Int32).toInt = 0 := by decide
    refine lv_iload_n hx hb dX10_recipe_10 rfl (lv_at hl 1 rfl) ?_
    refine lv_bipush (v := 8) hx hb dX10_recipe_11 (by decide) ?_
    refine lv_icmp_ge (tgt := 32) hx hb dX10_recipe_13 (by decide) (fun c_6 => ?_) (fun c_6 => ?_)
    · have nc_6 := le_i c_6
      have lc_6 : (8 : Int32).toInt = 8 := by decide
      refine lv_iconst (v := 0) hx hb dX10_recipe_32 (by decide) ?_
      refine lv_iconst (v := 1) hx hb dX10_recipe_33 (by decide) ?_
      refine M_V ⟨hx, hb, hml, hown, hts⟩ (m_X10_right l dC dI sa g h0 b (va_up i 0 (0 : Int32)) a (0 : Int32) (1 : Int32) _ (by decide)) (cwV 2 hts gX10_recipe_X10_right rfl rfl rfl (by decide +kernel) ⟨Nat.le_of_ble_eq_true rfl, Nat.le_of_ble_eq_true rfl⟩) hP hD hK hS hA hev rfl rfl rfl rfl hl.1 rfl (Nat.le_of_ble_eq_true rfl) dX10_recipe_34 ⟨(Nat.le_of_ble_eq_true rfl), (Nat.le_of_ble_eq_true rfl)⟩ (fun r u H locs hw hP hD hS => ?_)
      obtain ⟨x0_7, rfl⟩ : ∃ z, z = u := ⟨_, rfl⟩
      have hw : ((r = some (.int 0) ∧ (True)) ∨ (r = some (.int 1) ∧ (¬ (0 : Int32) = 0))) ∧ (True) := hw
      obtain ⟨⟨rfl, hz2_9⟩ | ⟨rfl, hz2_9⟩, hw_8⟩ := hw
      · have hP : va_P (dC, dI) vwCl (mw g h0 b (va_up i 0 x0_7) a) _ := hP
        have hD : va_D _ (mw g h0 b (va_up i 0 x0_7) a) := hD
        refine W.eq (g2 := F0 m 37 ls [.int 0]) rfl ?_
        refine lv_if_ne (tgt := 42) hx hb dX10_recipe_37 (by decide) (fun c_10 => absurd c_10 (by decide)) (fun _ => ?_)
        refine lv_iconst (v := 0) hx hb dX10_recipe_40 (by decide) ?_
        exact M_i hx hb hr hlocks (x0_7, (i 20), (i 21), (i 22), (i 23), (i 24), (i 25), (i 36), (i 37), (i 38), (a 26), (a 27), (a 28), (a 29), (a 30), (a 31), (a 32), (a 33), (a 34), (a 35)) hP hD hK hS ⟨⟨_, rfl⟩, ⟨hT2, hBI⟩⟩ (Nat.le_of_ble_eq_true rfl) (Nat.le_of_ble_eq_true rfl) dX10_recipe_41
      · have hP : va_P (dC, dI) vwCl (mw g h0 b (va_up i 0 x0_7) a) _ := hP
        have hD : va_D _ (mw g h0 b (va_up i 0 x0_7) a) := hD
        refine W.eq (g2 := F0 m 37 ls [.int 1]) rfl ?_
        exact absurd rfl hz2_9
    · have nc_6 := nle_i c_6
      have lc_6 : (8 : Int32).toInt = 8 := by decide
      refine lv_iload_n hx hb dX10_recipe_16 rfl (lv_at hl 2 rfl) ?_
      refine lv_if_lt (tgt := 32) hx hb dX10_recipe_17 (by decide) (fun c_11 => ?_) (fun c_11 => ?_)
      · have nc_11 := lt_i c_11
        have lc_11 : (0 : Int32).toInt = 0 := by decide
        refine lv_iconst (v := 0) hx hb dX10_recipe_32 (by decide) ?_
        refine lv_iconst (v := 1) hx hb dX10_recipe_33 (by decide) ?_
        refine M_V ⟨hx, hb, hml, hown, hts⟩ (m_X10_right l dC dI sa g h0 b (va_up i 0 (0 : Int32)) a (0 : Int32) (1 : Int32) _ (by decide)) (cwV 2 hts gX10_recipe_X10_right rfl rfl rfl (by decide +kernel) ⟨Nat.le_of_ble_eq_true rfl, Nat.le_of_ble_eq_true rfl⟩) hP hD hK hS hA hev rfl rfl rfl rfl hl.1 rfl (Nat.le_of_ble_eq_true rfl) dX10_recipe_34 ⟨(Nat.le_of_ble_eq_true rfl), (Nat.le_of_ble_eq_true rfl)⟩ (fun r u H locs hw hP hD hS => ?_)
        obtain ⟨x0_12, rfl⟩ : ∃ z, z = u := ⟨_, rfl⟩
        have hw : ((r = some (.int 0) ∧ (True)) ∨ (r = some (.int 1) ∧ (¬ (0 : Int32) = 0))) ∧ (True) := hw
        obtain ⟨⟨rfl, hz2_14⟩ | ⟨rfl, hz2_14⟩, hw_13⟩ := hw
        · have hP : va_P (dC, dI) vwCl (mw g h0 b (va_up i 0 x0_12) a) _ := hP
          have hD : va_D _ (mw g h0 b (va_up i 0 x0_12) a) := hD
          refine W.eq (g2 := F0 m 37 ls [.int 0]) rfl ?_
          refine lv_if_ne (tgt := 42) hx hb dX10_recipe_37 (by decide) (fun c_15 => absurd c_15 (by decide)) (fun _ => ?_)
          refine lv_iconst (v := 0) hx hb dX10_recipe_40 (by decide) ?_
          exact M_i hx hb hr hlocks (x0_12, (i 20), (i 21), (i 22), (i 23), (i 24), (i 25), (i 36), (i 37), (i 38), (a 26), (a 27), (a 28), (a 29), (a 30), (a 31), (a 32), (a 33), (a 34), (a 35)) hP hD hK hS ⟨⟨_, rfl⟩, ⟨hT2, hBI⟩⟩ (Nat.le_of_ble_eq_true rfl) (Nat.le_of_ble_eq_true rfl) dX10_recipe_41
        · have hP : va_P (dC, dI) vwCl (mw g h0 b (va_up i 0 x0_12) a) _ := hP
          have hD : va_D _ (mw g h0 b (va_up i 0 x0_12) a) := hD
          refine W.eq (g2 := F0 m 37 ls [.int 1]) rfl ?_
          exact absurd rfl hz2_14
      · have nc_11 := nlt_i c_11
        have lc_11 : (0 : Int32).toInt = 0 := by decide
        refine lv_iload_n hx hb dX10_recipe_20 rfl (lv_at hl 2 rfl) ?_
        refine lv_aload_n hx hb dX10_recipe_21 rfl (lv_at hl 0 rfl) ?_
        refine va_get (D := (dC, dI)) (ci := 10) (v := .int (i 20)) (C := RX10) (T := TX10) (N := 51) hx hb hts inw_X10_recipe_10 hown hK hP 0 rfl rfl 20 (by decide) (hts (.fieldLink RX10 159 "VatHouseModel" "taped" "I") (by decide +kernel)) (fun _ h9 => h9) rfl dX10_recipe_22 ?_
        refine lv_icmp_gt (tgt := 32) hx hb dX10_recipe_25 (by decide) (fun c_16 => ?_) (fun c_16 => ?_)
        · have nc_16 := lt_i c_16
          refine lv_iconst (v := 0) hx hb dX10_recipe_32 (by decide) ?_
          refine lv_iconst (v := 1) hx hb dX10_recipe_33 (by decide) ?_
          refine M_V ⟨hx, hb, hml, hown, hts⟩ (m_X10_right l dC dI sa g h0 b (va_up i 0 (0 : Int32)) a (0 : Int32) (1 : Int32) _ (by decide)) (cwV 2 hts gX10_recipe_X10_right rfl rfl rfl (by decide +kernel) ⟨Nat.le_of_ble_eq_true rfl, Nat.le_of_ble_eq_true rfl⟩) hP hD hK hS hA hev rfl rfl rfl rfl hl.1 rfl (Nat.le_of_ble_eq_true rfl) dX10_recipe_34 ⟨(Nat.le_of_ble_eq_true rfl), (Nat.le_of_ble_eq_true rfl)⟩ (fun r u H locs hw hP hD hS => ?_)
          obtain ⟨x0_17, rfl⟩ : ∃ z, z = u := ⟨_, rfl⟩
          have hw : ((r = some (.int 0) ∧ (True)) ∨ (r = some (.int 1) ∧ (¬ (0 : Int32) = 0))) ∧ (True) := hw
          obtain ⟨⟨rfl, hz2_19⟩ | ⟨rfl, hz2_19⟩, hw_18⟩ := hw
          · have hP : va_P (dC, dI) vwCl (mw g h0 b (va_up i 0 x0_17) a) _ := hP
            have hD : va_D _ (mw g h0 b (va_up i 0 x0_17) a) := hD
            refine W.eq (g2 := F0 m 37 ls [.int 0]) rfl ?_
            refine lv_if_ne (tgt := 42) hx hb dX10_recipe_37 (by decide) (fun c_20 => absurd c_20 (by decide)) (fun _ => ?_)
            refine lv_iconst (v := 0) hx hb dX10_recipe_40 (by decide) ?_
            exact M_i hx hb hr hlocks (x0_17, (i 20), (i 21), (i 22), (i 23), (i 24), (i 25), (i 36), (i 37), (i 38), (a 26), (a 27), (a 28), (a 29), (a 30), (a 31), (a 32), (a 33), (a 34), (a 35)) hP hD hK hS ⟨⟨_, rfl⟩, ⟨hT2, hBI⟩⟩ (Nat.le_of_ble_eq_true rfl) (Nat.le_of_ble_eq_true rfl) dX10_recipe_41
          · have hP : va_P (dC, dI) vwCl (mw g h0 b (va_up i 0 x0_17) a) _ := hP
            have hD : va_D _ (mw g h0 b (va_up i 0 x0_17) a) := hD
            refine W.eq (g2 := F0 m 37 ls [.int 1]) rfl ?_
            exact absurd rfl hz2_19
        · have nc_16 := nlt_i c_16
          refine lv_iconst (v := 1) hx hb dX10_recipe_28 (by decide) ?_
          refine lv_goto (tgt := 33) hx hb dX10_recipe_29 (by decide) ?_
          refine lv_iconst (v := 1) hx hb dX10_recipe_33 (by decide) ?_
          refine M_V ⟨hx, hb, hml, hown, hts⟩ (m_X10_right l dC dI sa g h0 b (va_up i 0 (0 : Int32)) a (1 : Int32) (1 : Int32) _ (by decide)) (cwV 2 hts gX10_recipe_X10_right rfl rfl rfl (by decide +kernel) ⟨Nat.le_of_ble_eq_true rfl, Nat.le_of_ble_eq_true rfl⟩) hP hD hK hS hA hev rfl rfl rfl rfl hl.1 rfl (Nat.le_of_ble_eq_true rfl) dX10_recipe_34 ⟨(Nat.le_of_ble_eq_true rfl), (Nat.le_of_ble_eq_true rfl)⟩ (fun r u H locs hw hP hD hS => ?_)
          obtain ⟨x0_21, rfl⟩ : ∃ z, z = u := ⟨_, rfl⟩
          have hw : ((r = some (.int 0) ∧ (True)) ∨ (r = some (.int 1) ∧ (¬ (1 : Int32) = 0))) ∧ (True) := hw
          obtain ⟨⟨rfl, hz2_23⟩ | ⟨rfl, hz2_23⟩, hw_22⟩ := hw
          · have hP : va_P (dC, dI) vwCl (mw g h0 b (va_up i 0 x0_21) a) _ := hP
            have hD : va_D _ (mw g h0 b (va_up i 0 x0_21) a) := hD
            refine W.eq (g2 := F0 m 37 ls [.int 0]) rfl ?_
            refine lv_if_ne (tgt := 42) hx hb dX10_recipe_37 (by decide) (fun c_24 => absurd c_24 (by decide)) (fun _ => ?_)
            refine lv_iconst (v := 0) hx hb dX10_recipe_40 (by decide) ?_
            exact M_i hx hb hr hlocks (x0_21, (i 20), (i 21), (i 22), (i 23), (i 24), (i 25), (i 36), (i 37), (i 38), (a 26), (a 27), (a 28), (a 29), (a 30), (a 31), (a 32), (a 33), (a 34), (a 35)) hP hD hK hS ⟨⟨_, rfl⟩, ⟨hT2, hBI⟩⟩ (Nat.le_of_ble_eq_true rfl) (Nat.le_of_ble_eq_true rfl) dX10_recipe_41
          · have hP : va_P (dC, dI) vwCl (mw g h0 b (va_up i 0 x0_21) a) _ := hP
            have hD : va_D _ (mw g h0 b (va_up i 0 x0_21) a) := hD
            refine W.eq (g2 := F0 m 37 ls [.int 1]) rfl ?_
            refine lv_if_ne (tgt := 42) hx hb dX10_recipe_37 (by decide) (fun _ => ?_) (fun c_25 => absurd c_25 (by decide))
            refine lv_aload_n hx hb dX10_recipe_42 rfl (lv_at hl 0 rfl) ?_
            refine lv_iload_n hx hb dX10_recipe_43 rfl (lv_at hl 2 rfl) ?_
            refine va_put (D := (dC, dI)) (ci := 10) (v := .int nn) (ty := .int) (C := RX10) (T := TX10) (N := 51) hx hb hts inw_X10_recipe_10 tyX10 tyX10_ok nmX10 hown hK hP hD hS 0 rfl rfl 21 (by decide) (hts (.fieldLink RX10 171 "VatHouseModel" "size" "I") (by decide +kernel)) (fun _ h9 => h9) rfl (by decide +kernel) rfl rfl (Nat.le_of_ble_eq_true rfl) dX10_recipe_44 (fun H locs hP hD hS => ?_)
            have hP : va_P (dC, dI) vwCl (mw g h0 b (va_up (va_up i 0 x0_21) 21 nn) a) _ := hP
            have hD : va_D _ (mw g h0 b (va_up (va_up i 0 x0_21) 21 nn) a) := hD
            refine lv_aload_n hx hb dX10_recipe_47 rfl (lv_at hl 0 rfl) ?_
            refine lv_iconst (v := 0) hx hb dX10_recipe_48 (by decide) ?_
            refine va_put (D := (dC, dI)) (ci := 10) (v := .int 0) (ty := .int) (C := RX10) (T := TX10) (N := 51) hx hb hts inw_X10_recipe_10 tyX10 tyX10_ok nmX10 hown hK hP hD hS 0 rfl rfl 22 (by decide) (hts (.fieldLink RX10 168 "VatHouseModel" "at" "I") (by decide +kernel)) (fun _ h9 => h9) rfl (by decide +kernel) rfl rfl (Nat.le_of_ble_eq_true rfl) dX10_recipe_49 (fun H locs hP hD hS => ?_)
            have hP : va_P (dC, dI) vwCl (mw g h0 b (va_up (va_up (va_up i 0 x0_21) 21 nn) 22 (0 : Int32)) a) _ := hP
            have hD : va_D _ (mw g h0 b (va_up (va_up (va_up i 0 x0_21) 21 nn) 22 (0 : Int32)) a) := hD
            refine lv_aload_n hx hb dX10_recipe_52 rfl (lv_at hl 0 rfl) ?_
            refine lv_iconst (v := 0) hx hb dX10_recipe_53 (by decide) ?_
            refine va_put (D := (dC, dI)) (ci := 10) (v := .int 0) (ty := .int) (C := RX10) (T := TX10) (N := 51) hx hb hts inw_X10_recipe_10 tyX10 tyX10_ok nmX10 hown hK hP hD hS 0 rfl rfl 20 (by decide) (hts (.fieldLink RX10 159 "VatHouseModel" "taped" "I") (by decide +kernel)) (fun _ h9 => h9) rfl (by decide +kernel) rfl rfl (Nat.le_of_ble_eq_true rfl) dX10_recipe_54 (fun H locs hP hD hS => ?_)
            have hP : va_P (dC, dI) vwCl (mw g h0 b (va_up (va_up (va_up (va_up i 0 x0_21) 20 (0 : Int32)) 21 nn) 22 (0 : Int32)) a) _ := hP
            have hD : va_D _ (mw g h0 b (va_up (va_up (va_up (va_up i 0 x0_21) 20 (0 : Int32)) 21 nn) 22 (0 : Int32)) a) := hD
            refine lv_aload_n hx hb dX10_recipe_57 rfl (lv_at hl 0 rfl) ?_
            refine lv_iconst (v := 0) hx hb dX10_recipe_58 (by decide) ?_
            refine va_put (D := (dC, dI)) (ci := 10) (v := .int 0) (ty := .int) (C := RX10) (T := TX10) (N := 51) hx hb hts inw_X10_recipe_10 tyX10 tyX10_ok nmX10 hown hK hP hD hS 0 rfl rfl 23 (by decide) (hts (.fieldLink RX10 165 "VatHouseModel" "faultKind" "I") (by decide +kernel)) (fun _ h9 => h9) rfl (by decide +kernel) rfl rfl (Nat.le_of_ble_eq_true rfl) dX10_recipe_59 (fun H locs hP hD hS => ?_)
            have hP : va_P (dC, dI) vwCl (mw g h0 b (va_up (va_up (va_up (va_up (va_up i 0 x0_21) 20 (0 : Int32)) 21 nn) 22 (0 : Int32)) 23 (0 : Int32)) a) _ := hP
            have hD : va_D _ (mw g h0 b (va_up (va_up (va_up (va_up (va_up i 0 x0_21) 20 (0 : Int32)) 21 nn) 22 (0 : Int32)) 23 (0 : Int32)) a) := hD
            refine lv_aload_n hx hb dX10_recipe_62 rfl (lv_at hl 0 rfl) ?_
            refine lv_iconst (v := (-1)) hx hb dX10_recipe_63 (by decide) ?_
            refine va_put (D := (dC, dI)) (ci := 10) (v := .int (-1)) (ty := .int) (C := RX10) (T := TX10) (N := 51) hx hb hts inw_X10_recipe_10 tyX10 tyX10_ok nmX10 hown hK hP hD hS 0 rfl rfl 24 (by decide) (hts (.fieldLink RX10 56 "VatHouseModel" "faultPlace" "I") (by decide +kernel)) (fun _ h9 => h9) rfl (by decide +kernel) rfl rfl (Nat.le_of_ble_eq_true rfl) dX10_recipe_64 (fun H locs hP hD hS => ?_)
            have hP : va_P (dC, dI) vwCl (mw g h0 b (va_up (va_up (va_up (va_up (va_up (va_up i 0 x0_21) 20 (0 : Int32)) 21 nn) 22 (0 : Int32)) 23 (0 : Int32)) 24 ((-1) : Int32)) a) _ := hP
            have hD : va_D _ (mw g h0 b (va_up (va_up (va_up (va_up (va_up (va_up i 0 x0_21) 20 (0 : Int32)) 21 nn) 22 (0 : Int32)) 23 (0 : Int32)) 24 ((-1) : Int32)) a) := hD
            refine lv_aload_n hx hb dX10_recipe_67 rfl (lv_at hl 0 rfl) ?_
            refine lv_iconst (v := 0) hx hb dX10_recipe_68 (by decide) ?_
            refine va_put (D := (dC, dI)) (ci := 10) (v := .int 0) (ty := .int) (C := RX10) (T := TX10) (N := 51) hx hb hts inw_X10_recipe_10 tyX10 tyX10_ok nmX10 hown hK hP hD hS 0 rfl rfl 36 (by decide) (hts (.fieldLink RX10 249 "VatHouseModel" "nodes" "I") (by decide +kernel)) (fun _ h9 => h9) rfl (by decide +kernel) rfl rfl (Nat.le_of_ble_eq_true rfl) dX10_recipe_69 (fun H locs hP hD hS => ?_)
            have hP : va_P (dC, dI) vwCl (mw g h0 b (va_up (va_up (va_up (va_up (va_up (va_up (va_up i 0 x0_21) 20 (0 : Int32)) 21 nn) 22 (0 : Int32)) 23 (0 : Int32)) 24 ((-1) : Int32)) 36 (0 : Int32)) a) _ := hP
            have hD : va_D _ (mw g h0 b (va_up (va_up (va_up (va_up (va_up (va_up (va_up i 0 x0_21) 20 (0 : Int32)) 21 nn) 22 (0 : Int32)) 23 (0 : Int32)) 24 ((-1) : Int32)) 36 (0 : Int32)) a) := hD
            refine lv_aload_n hx hb dX10_recipe_72 rfl (lv_at hl 0 rfl) ?_
            refine lv_iconst (v := 0) hx hb dX10_recipe_73 (by decide) ?_
            refine va_put (D := (dC, dI)) (ci := 10) (v := .int 0) (ty := .int) (C := RX10) (T := TX10) (N := 51) hx hb hts inw_X10_recipe_10 tyX10 tyX10_ok nmX10 hown hK hP hD hS 0 rfl rfl 38 (by decide) (hts (.fieldLink RX10 277 "VatHouseModel" "blocks" "I") (by decide +kernel)) (fun _ h9 => h9) rfl (by decide +kernel) rfl rfl (Nat.le_of_ble_eq_true rfl) dX10_recipe_74 (fun H locs hP hD hS => ?_)
            have hP : va_P (dC, dI) vwCl (mw g h0 b (va_up (va_up (va_up (va_up (va_up (va_up (va_up (va_up i 0 x0_21) 20 (0 : Int32)) 21 nn) 22 (0 : Int32)) 23 (0 : Int32)) 24 ((-1) : Int32)) 36 (0 : Int32)) 38 (0 : Int32)) a) _ := hP
            have hD : va_D _ (mw g h0 b (va_up (va_up (va_up (va_up (va_up (va_up (va_up (va_up i 0 x0_21) 20 (0 : Int32)) 21 nn) 22 (0 : Int32)) 23 (0 : Int32)) 24 ((-1) : Int32)) 36 (0 : Int32)) 38 (0 : Int32)) a) := hD
            refine lv_aload_n hx hb dX10_recipe_77 rfl (lv_at hl 0 rfl) ?_
            refine lv_iconst (v := 0) hx hb dX10_recipe_78 (by decide) ?_
            have h00 : (0 : Int32).toInt = 0 := by decide
            refine M_V ⟨hx, hb, hml, hown, hts⟩ (X10_steps_all l dC dI sa g h0 b 8 0 rfl (fun _ => 0) (va_up (va_up (va_up (va_up (va_up (va_up (va_up (va_up i 0 x0_21) 20 (0 : Int32)) 21 nn) 22 (0 : Int32)) 23 (0 : Int32)) 24 ((-1) : Int32)) 36 (0 : Int32)) 38 (0 : Int32)) a (0 : Int32) _ (show 0 ≤ (0 : Int32).toInt ∧ (0 : Int32).toInt ≤ nn.toInt ∧ nn.toInt ≤ 1500 from by omega) (show 0 ≤ (0 : Int32).toInt from by omega) PN_zero nI_0.symm) (cwV 1 hts gX10_recipe_X10_steps rfl rfl rfl (by decide +kernel) ⟨Nat.le_of_ble_eq_true rfl, Nat.le_of_ble_eq_true rfl⟩) hP hD hK hS hA hev rfl rfl rfl rfl hl.1 rfl (Nat.le_of_ble_eq_true rfl) dX10_recipe_79 ⟨(Nat.le_of_ble_eq_true rfl), (Nat.le_of_ble_eq_true rfl)⟩ (fun r u H locs hw hP hD hS => ?_)
            obtain ⟨x22_26, x23_27, x24_28, x25_29, x36_30, y26_31, y27_32, y28_33, y29_34, y30_35, y31_36, y32_37, y33_38⟩ := u
            have hw : (∃ z : Int32, r = some (.int z)) ∧ ((((0 : Int32).toInt ≤ x22_26.toInt ∧ x22_26.toInt ≤ nn.toInt) ∧ 0 ≤ x23_27.toInt ∧ (0 < (0 : Int32).toInt → 0 < x23_27.toInt)) ∧ ∃ dpN : Nat → Nat, PR (0 : Int32) x36_30 (fun _ => 0) dpN (a 26) (a 27) (a 31) (a 32) (a 33) y26_31 y27_32 y31_36 y32_37 y33_38 ∧ (∀ z : Int32, r = some (.int z) → (z = -2 ∧ 0 < x23_27.toInt) ∨ lk (PV x36_30) dpN 0 z)) := hw
            obtain ⟨⟨z_40, rfl⟩, hw_39⟩ := hw
            have hP : va_P (dC, dI) vwCl (mw g h0 b (va_up (va_up (va_up (va_up (va_up (va_up (va_up (va_up (va_up i 0 x0_21) 20 (0 : Int32)) 21 nn) 22 x22_26) 23 x23_27) 24 x24_28) 25 x25_29) 36 x36_30) 38 (0 : Int32)) (va_up (va_up (va_up (va_up (va_up (va_up (va_up (va_up a 26 y26_31) 27 y27_32) 28 y28_33) 29 y29_34) 30 y30_35) 31 y31_36) 32 y32_37) 33 y33_38)) _ := hP
            have hD : va_D _ (mw g h0 b (va_up (va_up (va_up (va_up (va_up (va_up (va_up (va_up (va_up i 0 x0_21) 20 (0 : Int32)) 21 nn) 22 x22_26) 23 x23_27) 24 x24_28) 25 x25_29) 36 x36_30) 38 (0 : Int32)) (va_up (va_up (va_up (va_up (va_up (va_up (va_up (va_up a 26 y26_31) 27 y27_32) 28 y28_33) 29 y29_34) 30 y30_35) 31 y31_36) 32 y32_37) 33 y33_38)) := hD
            refine W.eq (g2 := F0 m 82 ls [.int z_40]) rfl ?_
            obtain ⟨hatq_44, dp_42, hPR_41, hres_43⟩ := hw_39
            have hres_43 := hres_43 _ rfl
            refine lv_istore_n (lv' := [(3, .int z_40), (0, .ref h0), (1, .int rr), (2, .int nn)]) hx hb dX10_recipe_82 rfl hl (by decide) rfl (fun ls hl => ?_)
            refine lv_aload_n hx hb dX10_recipe_83 rfl (lv_at hl 1 rfl) ?_
            refine va_get (D := (dC, dI)) (ci := 10) (v := .int x23_27) (C := RX10) (T := TX10) (N := 51) hx hb hts inw_X10_recipe_10 hown hK hP 0 rfl rfl 23 (by decide) (hts (.fieldLink RX10 165 "VatHouseModel" "faultKind" "I") (by decide +kernel)) (fun _ h9 => h9) rfl dX10_recipe_84 ?_
            refine lv_if_le (tgt := 95) hx hb dX10_recipe_87 (by decide) (fun c_45 => ?_) (fun c_45 => ?_)
            · have nc_45 := le_i c_45
              have lc_45 : (0 : Int32).toInt = 0 := by decide
              refine lv_sipush (v := 300) hx hb dX10_recipe_95 (by decide) ?_
              refine lv_iload_n hx hb dX10_recipe_98 rfl (lv_at hl 2 rfl) ?_
              refine lv_imul hx hb dX10_recipe_99 ?_
              refine lv_topi (fun z_46 ez_46 => ?_)
              refine lv_sipush (v := 2400) hx hb dX10_recipe_100 (by decide) ?_
              refine lv_isub hx hb dX10_recipe_103 ?_
              refine lv_topi (fun z_47 ez_47 => ?_)
              refine lv_istore (lv' := [(4, .int z_47), (3, .int z_40), (0, .ref h0), (1, .int rr), (2, .int nn)]) hx hb dX10_recipe_104 hl (by decide) rfl (fun ls hl => ?_)
              obtain ⟨r, hr8, hrr⟩ : ∃ r : Nat, r < 8 ∧ rr.toInt = (r : Int) := ⟨rr.toInt.toNat, by omega, by omega⟩
              have hrc : rr.toNatClampNeg = r := by have h9 := clamp_i (x := rr) (by omega); omega
              have t300 : (300 : Int32).toInt = 300 := by decide
              have tz_46 := mulc_i ez_46 (by decide : (300 : Int32).toInt = 300) (by omega) (by omega)
              have t2400 : (2400 : Int32).toInt = 2400 := by decide
              have tz_47 := sub_i ez_47 (by omega) (by omega)
              have hby : z_47.toInt = 300 * (r : Int) - 2400 := by omega
              have hlkz := hres_43.resolve_left (fun h9 => by have h8 := h9.2; omega)
              have hN3 := hPR_41.2.1.2.1
              have hN0 := hPR_41.2.1.1
              refine lv_sipush (v := 2400) hx hb dX10_recipe_106 (by decide) ?_
              refine lv_istore (lv' := [(5, .int 2400), (4, .int z_47), (3, .int z_40), (0, .ref h0), (1, .int rr), (2, .int nn)]) hx hb dX10_recipe_109 hl (by decide) rfl (fun ls hl => ?_)
              have lp : ∀ (n : Nat) (kx : Int32) (l26 : Nat → Int32) (l27 : Nat → Int32) (l28 : Nat → Int32) (l29 : Nat → Int32) (l30 : Nat → Int32) (l31 : Nat → Int32) (l32 : Nat → Int32) (l33 : Nat → Int32) (H : Heap) (locs : List Loc) (ls : Array Slot), ((2400 + x36_30.toInt - kx.toInt).toNat < n) → (∃ d : Nat, kx = nI (2400 + d) ∧ (d : Int) ≤ x36_30.toInt ∧ CP r d z_47 y26_31 y27_32 y31_36 y32_37 y33_38 l26 l27 l31 l32 l33) → va_P (dC, dI) vwCl (mw g h0 b (va_up (va_up (va_up (va_up (va_up (va_up (va_up (va_up (va_up i 0 x0_21) 20 (0 : Int32)) 21 nn) 22 x22_26) 23 x23_27) 24 x24_28) 25 x25_29) 36 x36_30) 38 (0 : Int32)) (va_up (va_up (va_up (va_up (va_up (va_up (va_up (va_up a 26 l26) 27 l27) 28 l28) 29 l29) 30 l30) 31 l31) 32 l32) 33 l33)) H → va_D (va_A (mw g h0 b i a) s.heap.size) (mw g h0 b (va_up (va_up (va_up (va_up (va_up (va_up (va_up (va_up (va_up i 0 x0_21) 20 (0 : Int32)) 21 nn) 22 x22_26) 23 x23_27) 24 x24_28) 25 x25_29) 36 x36_30) 38 (0 : Int32)) (va_up (va_up (va_up (va_up (va_up (va_up (va_up (va_up a 26 l26) 27 l27) 28 l28) 29 l29) 30 l30) 31 l31) 32 l32) 33 l33)) → va_S (va_A (mw g h0 b i a) s.heap.size) s.heap H locs → lv_has ls 6 [(5, .int kx), (4, .int z_47), (3, .int z_40), (0, .ref h0), (1, .int rr), (2, .int nn)] → W p l e rm_X10_recipe s m [.ref h0, .int rr, .int nn].toArray below meth c H locs 0 0 (MQ below (Qg (fun (r : Option Value) (u : Int32 × Int32 × Int32 × Int32 × Int32 × Int32 × Int32 × Int32 × Int32 × Int32 × (Nat → Int32) × (Nat → Int32) × (Nat → Int32) × (Nat → Int32) × (Nat → Int32) × (Nat → Int32) × (Nat → Int32) × (Nat → Int32) × (Nat → Int32) × (Nat → Int32)) => match u with | (x0, x20, x21, x22, x23, x24, x25, x36, x37, x38, y26, y27, y28, y29, y30, y31, y32, y33, y34, y35) => (∃ z : Int32, r = some (.int z)) ∧ ((0 ≤ x20.toInt ∧ x20.toInt ≤ 1500) ∧ BI y26 y27 y31 y32 y33 y34 y35)) (fun u t => QW dC dI (va_A (mw g h0 b i a) s.heap.size) ((fun (u : Int32 × Int32 × Int32 × Int32 × Int32 × Int32 × Int32 × Int32 × Int32 × Int32 × (Nat → Int32) × (Nat → Int32) × (Nat → Int32) × (Nat → Int32) × (Nat → Int32) × (Nat → Int32) × (Nat → Int32) × (Nat → Int32) × (Nat → Int32) × (Nat → Int32)) => match u with | (x0, x20, x21, x22, x23, x24, x25, x36, x37, x38, y26, y27, y28, y29, y30, y31, y32, y33, y34, y35) => mw g h0 b (va_up (va_up (va_up (va_up (va_up (va_up (va_up (va_up (va_up (va_up i 0 x0) 20 x20) 21 x21) 22 x22) 23 x23) 24 x24) 25 x25) 36 x36) 37 x37) 38 x38) (va_up (va_up (va_up (va_up (va_up (va_up (va_up (va_up (va_up (va_up a 26 y26) 27 y27) 28 y28) 29 y29) 30 y30) 31 y31) 32 y32) 33 y33) 34 y34) 35 y35)) u) [] t) (va_A (mw g h0 b i a) s.heap.size)) [.ref h0, .int rr, .int nn].toArray s 0 0 (va_A (mw g h0 b i a) s.heap.size)) (F0 m 111 ls []) := by
                intro n
                induction n with
                | zero => intro kx l26 l27 l28 l29 l30 l31 l32 l33 H locs ls hm hcE hP hD hS hl; exact absurd hm (by omega)
                | succ n ih =>
                  intro kx l26 l27 l28 l29 l30 l31 l32 l33 H locs ls hm hcE hP hD hS hl
                  refine lv_iload hx hb dX10_recipe_111 (lv_at hl 0 rfl) ?_
                  refine lv_sipush (v := 2400) hx hb dX10_recipe_113 (by decide) ?_
                  refine lv_aload_n hx hb dX10_recipe_116 rfl (lv_at hl 3 rfl) ?_
                  refine va_get (D := (dC, dI)) (ci := 10) (v := .int x36_30) (C := RX10) (T := TX10) (N := 51) hx hb hts inw_X10_recipe_10 hown hK hP 0 rfl rfl 36 (by decide) (hts (.fieldLink RX10 249 "VatHouseModel" "nodes" "I") (by decide +kernel)) (fun _ h9 => h9) rfl dX10_recipe_117 ?_
                  refine lv_iadd hx hb dX10_recipe_120 ?_
                  refine lv_topi (fun z_48 ez_48 => ?_)
                  obtain ⟨d, hd1, hd2, hcp⟩ := hcE
                  have hkxI : kx.toInt = 2400 + (d : Int) := by rw [hd1, nI_toInt (by omega)]; omega
                  have t2400 : (2400 : Int32).toInt = 2400 := by decide
                  have tz_48 := add_i ez_48 (by omega) (by omega)
                  refine lv_icmp_ge (tgt := 320) hx hb dX10_recipe_121 (by decide) (fun c_49 => ?_) (fun c_49 => ?_)
                  · have nc_49 := le_i c_49
                    have hdN : d = x36_30.toInt.toNat := by omega
                    rw [hdN] at hcp
                    refine lv_aload_n hx hb dX10_recipe_320 rfl (lv_at hl 3 rfl) ?_
                    refine va_get (D := (dC, dI)) (ci := 10) (v := .ref (b 34)) (C := RX10) (T := TX10) (N := 51) hx hb hts inw_X10_recipe_10 hown hK hP 0 rfl rfl 34 (by decide) (hts (.fieldLink RX10 84 "VatHouseModel" "first" "[I") (by decide +kernel)) (fun _ h9 => h9) rfl dX10_recipe_321 ?_
                    refine lv_iload_n hx hb dX10_recipe_324 rfl (lv_at hl 4 rfl) ?_
                    refine lv_iload_n hx hb dX10_recipe_325 rfl (lv_at hl 2 rfl) ?_
                    refine lv_iconst (v := (-1)) hx hb dX10_recipe_326 (by decide) ?_
                    refine lv_icmp_ne (tgt := 335) hx hb dX10_recipe_327 (by decide) (fun c_50 => ?_) (fun c_50 => ?_)
                    · have nc_50 := ne_i c_50
                      have lc_50 : ((-1) : Int32).toInt = -1 := by decide
                      refine lv_iload_n hx hb dX10_recipe_335 rfl (lv_at hl 2 rfl) ?_
                      refine lv_iload hx hb dX10_recipe_336 (lv_at hl 1 rfl) ?_
                      refine lv_iadd hx hb dX10_recipe_338 ?_
                      refine lv_topi (fun z_51 ez_51 => ?_)
                      refine va_iast hx hb hK hP hD hS 24 23 rfl rfl (in_i (by omega) (by omega)) dX10_recipe_339 (fun H locs hP hD hS => ?_)
                      have hP : va_P (dC, dI) vwCl (mw g h0 b (va_up (va_up (va_up (va_up (va_up (va_up (va_up (va_up (va_up i 0 x0_21) 20 (0 : Int32)) 21 nn) 22 x22_26) 23 x23_27) 24 x24_28) 25 x25_29) 36 x36_30) 38 (0 : Int32)) (va_up (va_up (va_up (va_up (va_up (va_up (va_up (va_up (va_up a 26 l26) 27 l27) 28 l28) 29 l29) 30 l30) 31 l31) 32 l32) 33 l33) 34 (upd (a 34) rr.toNatClampNeg z_51))) _ := hP
                      have hD : va_D _ (mw g h0 b (va_up (va_up (va_up (va_up (va_up (va_up (va_up (va_up (va_up i 0 x0_21) 20 (0 : Int32)) 21 nn) 22 x22_26) 23 x23_27) 24 x24_28) 25 x25_29) 36 x36_30) 38 (0 : Int32)) (va_up (va_up (va_up (va_up (va_up (va_up (va_up (va_up (va_up a 26 l26) 27 l27) 28 l28) 29 l29) 30 l30) 31 l31) 32 l32) 33 l33) 34 (upd (a 34) rr.toNatClampNeg z_51))) := hD
                      obtain ⟨f_52, ef_52⟩ : ∃ z, z = (upd (a 34) rr.toNatClampNeg z_51) := ⟨_, rfl⟩
                      rw [← ef_52] at hP hD
                      refine lv_aload_n hx hb dX10_recipe_340 rfl (lv_at hl 3 rfl) ?_
                      refine va_get (D := (dC, dI)) (ci := 10) (v := .ref (b 35)) (C := RX10) (T := TX10) (N := 51) hx hb hts inw_X10_recipe_10 hown hK hP 0 rfl rfl 35 (by decide) (hts (.fieldLink RX10 87 "VatHouseModel" "many" "[I") (by decide +kernel)) (fun _ h9 => h9) rfl dX10_recipe_341 ?_
                      refine lv_iload_n hx hb dX10_recipe_344 rfl (lv_at hl 4 rfl) ?_
                      refine lv_aload_n hx hb dX10_recipe_345 rfl (lv_at hl 3 rfl) ?_
                      refine va_get (D := (dC, dI)) (ci := 10) (v := .int x36_30) (C := RX10) (T := TX10) (N := 51) hx hb hts inw_X10_recipe_10 hown hK hP 0 rfl rfl 36 (by decide) (hts (.fieldLink RX10 249 "VatHouseModel" "nodes" "I") (by decide +kernel)) (fun _ h9 => h9) rfl dX10_recipe_346 ?_
                      refine va_iast hx hb hK hP hD hS 25 24 rfl rfl (in_i (by omega) (by omega)) dX10_recipe_349 (fun H locs hP hD hS => ?_)
                      have hP : va_P (dC, dI) vwCl (mw g h0 b (va_up (va_up (va_up (va_up (va_up (va_up (va_up (va_up (va_up i 0 x0_21) 20 (0 : Int32)) 21 nn) 22 x22_26) 23 x23_27) 24 x24_28) 25 x25_29) 36 x36_30) 38 (0 : Int32)) (va_up (va_up (va_up (va_up (va_up (va_up (va_up (va_up (va_up (va_up a 26 l26) 27 l27) 28 l28) 29 l29) 30 l30) 31 l31) 32 l32) 33 l33) 34 f_52) 35 (upd (a 35) rr.toNatClampNeg x36_30))) _ := hP
                      have hD : va_D _ (mw g h0 b (va_up (va_up (va_up (va_up (va_up (va_up (va_up (va_up (va_up i 0 x0_21) 20 (0 : Int32)) 21 nn) 22 x22_26) 23 x23_27) 24 x24_28) 25 x25_29) 36 x36_30) 38 (0 : Int32)) (va_up (va_up (va_up (va_up (va_up (va_up (va_up (va_up (va_up (va_up a 26 l26) 27 l27) 28 l28) 29 l29) 30 l30) 31 l31) 32 l32) 33 l33) 34 f_52) 35 (upd (a 35) rr.toNatClampNeg x36_30))) := hD
                      obtain ⟨f_53, ef_53⟩ : ∃ z, z = (upd (a 35) rr.toNatClampNeg x36_30) := ⟨_, rfl⟩
                      rw [← ef_53] at hP hD
                      refine lv_aload_n hx hb dX10_recipe_350 rfl (lv_at hl 3 rfl) ?_
                      refine lv_aload_n hx hb dX10_recipe_351 rfl (lv_at hl 3 rfl) ?_
                      refine va_get (D := (dC, dI)) (ci := 10) (v := .int x36_30) (C := RX10) (T := TX10) (N := 51) hx hb hts inw_X10_recipe_10 hown hK hP 0 rfl rfl 36 (by decide) (hts (.fieldLink RX10 249 "VatHouseModel" "nodes" "I") (by decide +kernel)) (fun _ h9 => h9) rfl dX10_recipe_352 ?_
                      refine va_put (D := (dC, dI)) (ci := 10) (v := .int x36_30) (ty := .int) (C := RX10) (T := TX10) (N := 51) hx hb hts inw_X10_recipe_10 tyX10 tyX10_ok nmX10 hown hK hP hD hS 0 rfl rfl 37 (by decide) (hts (.fieldLink RX10 284 "VatHouseModel" "latest" "I") (by decide +kernel)) (fun _ h9 => h9) rfl (by decide +kernel) rfl rfl (Nat.le_of_ble_eq_true rfl) dX10_recipe_355 (fun H locs hP hD hS => ?_)
                      have hP : va_P (dC, dI) vwCl (mw g h0 b (va_up (va_up (va_up (va_up (va_up (va_up (va_up (va_up (va_up (va_up i 0 x0_21) 20 (0 : Int32)) 21 nn) 22 x22_26) 23 x23_27) 24 x24_28) 25 x25_29) 36 x36_30) 37 x36_30) 38 (0 : Int32)) (va_up (va_up (va_up (va_up (va_up (va_up (va_up (va_up (va_up (va_up a 26 l26) 27 l27) 28 l28) 29 l29) 30 l30) 31 l31) 32 l32) 33 l33) 34 f_52) 35 f_53)) _ := hP
                      have hD : va_D _ (mw g h0 b (va_up (va_up (va_up (va_up (va_up (va_up (va_up (va_up (va_up (va_up i 0 x0_21) 20 (0 : Int32)) 21 nn) 22 x22_26) 23 x23_27) 24 x24_28) 25 x25_29) 36 x36_30) 37 x36_30) 38 (0 : Int32)) (va_up (va_up (va_up (va_up (va_up (va_up (va_up (va_up (va_up (va_up a 26 l26) 27 l27) 28 l28) 29 l29) 30 l30) 31 l31) 32 l32) 33 l33) 34 f_52) 35 f_53)) := hD
                      refine lv_iconst (v := 0) hx hb dX10_recipe_358 (by decide) ?_
                      exact M_i hx hb hr hlocks (x0_21, (0 : Int32), nn, x22_26, x23_27, x24_28, x25_29, x36_30, x36_30, (0 : Int32), l26, l27, l28, l29, l30, l31, l32, l33, f_52, f_53) hP hD hK hS ⟨⟨_, rfl⟩, ⟨by decide, by rw [ef_52, ef_53]; exact BI.put hr8 hBI hPR_41.2.2.1 hPR_41.2.1 hcp hby hlkz (by rw [if_neg c_50]; exact ez_51) hrc⟩⟩ (Nat.le_of_ble_eq_true rfl) (Nat.le_of_ble_eq_true rfl) dX10_recipe_359
                    · have nc_50 := eq_i c_50
                      have lc_50 : ((-1) : Int32).toInt = -1 := by decide
                      refine lv_bipush (v := (-2)) hx hb dX10_recipe_330 (by decide) ?_
                      refine lv_goto (tgt := 339) hx hb dX10_recipe_332 (by decide) ?_
                      refine va_iast hx hb hK hP hD hS 24 23 rfl rfl (in_i (by omega) (by omega)) dX10_recipe_339 (fun H locs hP hD hS => ?_)
                      have hP : va_P (dC, dI) vwCl (mw g h0 b (va_up (va_up (va_up (va_up (va_up (va_up (va_up (va_up (va_up i 0 x0_21) 20 (0 : Int32)) 21 nn) 22 x22_26) 23 x23_27) 24 x24_28) 25 x25_29) 36 x36_30) 38 (0 : Int32)) (va_up (va_up (va_up (va_up (va_up (va_up (va_up (va_up (va_up a 26 l26) 27 l27) 28 l28) 29 l29) 30 l30) 31 l31) 32 l32) 33 l33) 34 (upd (a 34) rr.toNatClampNeg ((-2) : Int32)))) _ := hP
                      have hD : va_D _ (mw g h0 b (va_up (va_up (va_up (va_up (va_up (va_up (va_up (va_up (va_up i 0 x0_21) 20 (0 : Int32)) 21 nn) 22 x22_26) 23 x23_27) 24 x24_28) 25 x25_29) 36 x36_30) 38 (0 : Int32)) (va_up (va_up (va_up (va_up (va_up (va_up (va_up (va_up (va_up a 26 l26) 27 l27) 28 l28) 29 l29) 30 l30) 31 l31) 32 l32) 33 l33) 34 (upd (a 34) rr.toNatClampNeg ((-2) : Int32)))) := hD
                      obtain ⟨f_54, ef_54⟩ : ∃ z, z = (upd (a 34) rr.toNatClampNeg ((-2) : Int32)) := ⟨_, rfl⟩
                      rw [← ef_54] at hP hD
                      refine lv_aload_n hx hb dX10_recipe_340 rfl (lv_at hl 3 rfl) ?_
                      refine va_get (D := (dC, dI)) (ci := 10) (v := .ref (b 35)) (C := RX10) (T := TX10) (N := 51) hx hb hts inw_X10_recipe_10 hown hK hP 0 rfl rfl 35 (by decide) (hts (.fieldLink RX10 87 "VatHouseModel" "many" "[I") (by decide +kernel)) (fun _ h9 => h9) rfl dX10_recipe_341 ?_
                      refine lv_iload_n hx hb dX10_recipe_344 rfl (lv_at hl 4 rfl) ?_
                      refine lv_aload_n hx hb dX10_recipe_345 rfl (lv_at hl 3 rfl) ?_
                      refine va_get (D := (dC, dI)) (ci := 10) (v := .int x36_30) (C := RX10) (T := TX10) (N := 51) hx hb hts inw_X10_recipe_10 hown hK hP 0 rfl rfl 36 (by decide) (hts (.fieldLink RX10 249 "VatHouseModel" "nodes" "I") (by decide +kernel)) (fun _ h9 => h9) rfl dX10_recipe_346 ?_
                      refine va_iast hx hb hK hP hD hS 25 24 rfl rfl (in_i (by omega) (by omega)) dX10_recipe_349 (fun H locs hP hD hS => ?_)
                      have hP : va_P (dC, dI) vwCl (mw g h0 b (va_up (va_up (va_up (va_up (va_up (va_up (va_up (va_up (va_up i 0 x0_21) 20 (0 : Int32)) 21 nn) 22 x22_26) 23 x23_27) 24 x24_28) 25 x25_29) 36 x36_30) 38 (0 : Int32)) (va_up (va_up (va_up (va_up (va_up (va_up (va_up (va_up (va_up (va_up a 26 l26) 27 l27) 28 l28) 29 l29) 30 l30) 31 l31) 32 l32) 33 l33) 34 f_54) 35 (upd (a 35) rr.toNatClampNeg x36_30))) _ := hP
                      have hD : va_D _ (mw g h0 b (va_up (va_up (va_up (va_up (va_up (va_up (va_up (va_up (va_up i 0 x0_21) 20 (0 : Int32)) 21 nn) 22 x22_26) 23 x23_27) 24 x24_28) 25 x25_29) 36 x36_30) 38 (0 : Int32)) (va_up (va_up (va_up (va_up (va_up (va_up (va_up (va_up (va_up (va_up a 26 l26) 27 l27) 28 l28) 29 l29) 30 l30) 31 l31) 32 l32) 33 l33) 34 f_54) 35 (upd (a 35) rr.toNatClampNeg x36_30))) := hD
                      obtain ⟨f_55, ef_55⟩ : ∃ z, z = (upd (a 35) rr.toNatClampNeg x36_30) := ⟨_, rfl⟩
                      rw [← ef_55] at hP hD
                      refine lv_aload_n hx hb dX10_recipe_350 rfl (lv_at hl 3 rfl) ?_
                      refine lv_aload_n hx hb dX10_recipe_351 rfl (lv_at hl 3 rfl) ?_
                      refine va_get (D := (dC, dI)) (ci := 10) (v := .int x36_30) (C := RX10) (T := TX10) (N := 51) hx hb hts inw_X10_recipe_10 hown hK hP 0 rfl rfl 36 (by decide) (hts (.fieldLink RX10 249 "VatHouseModel" "nodes" "I") (by decide +kernel)) (fun _ h9 => h9) rfl dX10_recipe_352 ?_
                      refine va_put (D := (dC, dI)) (ci := 10) (v := .int x36_30) (ty := .int) (C := RX10) (T := TX10) (N := 51) hx hb hts inw_X10_recipe_10 tyX10 tyX10_ok nmX10 hown hK hP hD hS 0 rfl rfl 37 (by decide) (hts (.fieldLink RX10 284 "VatHouseModel" "latest" "I") (by decide +kernel)) (fun _ h9 => h9) rfl (by decide +kernel) rfl rfl (Nat.le_of_ble_eq_true rfl) dX10_recipe_355 (fun H locs hP hD hS => ?_)
                      have hP : va_P (dC, dI) vwCl (mw g h0 b (va_up (va_up (va_up (va_up (va_up (va_up (va_up (va_up (va_up (va_up i 0 x0_21) 20 (0 : Int32)) 21 nn) 22 x22_26) 23 x23_27) 24 x24_28) 25 x25_29) 36 x36_30) 37 x36_30) 38 (0 : Int32)) (va_up (va_up (va_up (va_up (va_up (va_up (va_up (va_up (va_up (va_up a 26 l26) 27 l27) 28 l28) 29 l29) 30 l30) 31 l31) 32 l32) 33 l33) 34 f_54) 35 f_55)) _ := hP
                      have hD : va_D _ (mw g h0 b (va_up (va_up (va_up (va_up (va_up (va_up (va_up (va_up (va_up (va_up i 0 x0_21) 20 (0 : Int32)) 21 nn) 22 x22_26) 23 x23_27) 24 x24_28) 25 x25_29) 36 x36_30) 37 x36_30) 38 (0 : Int32)) (va_up (va_up (va_up (va_up (va_up (va_up (va_up (va_up (va_up (va_up a 26 l26) 27 l27) 28 l28) 29 l29) 30 l30) 31 l31) 32 l32) 33 l33) 34 f_54) 35 f_55)) := hD
                      refine lv_iconst (v := 0) hx hb dX10_recipe_358 (by decide) ?_
                      exact M_i hx hb hr hlocks (x0_21, (0 : Int32), nn, x22_26, x23_27, x24_28, x25_29, x36_30, x36_30, (0 : Int32), l26, l27, l28, l29, l30, l31, l32, l33, f_54, f_55) hP hD hK hS ⟨⟨_, rfl⟩, ⟨by decide, by rw [ef_54, ef_55]; exact BI.put hr8 hBI hPR_41.2.2.1 hPR_41.2.1 hcp hby hlkz (by rw [if_pos c_50]) hrc⟩⟩ (Nat.le_of_ble_eq_true rfl) (Nat.le_of_ble_eq_true rfl) dX10_recipe_359
                  · have nc_49 := nle_i c_49
                    have hd3 : (d : Int) < x36_30.toInt := by omega
                    have hkxc : kx.toNatClampNeg = 2400 + d := by have h9 := clamp_i (x := kx) (by omega); omega
                    have hd300 : d < 300 := by omega
                    have hkxv : vp_in kx 2700 := in_i (by omega) (by omega)
                    refine lv_aload_n hx hb dX10_recipe_124 rfl (lv_at hl 3 rfl) ?_
                    refine va_get (D := (dC, dI)) (ci := 10) (v := .ref (b 26)) (C := RX10) (T := TX10) (N := 51) hx hb hts inw_X10_recipe_10 hown hK hP 0 rfl rfl 26 (by decide) (hts (.fieldLink RX10 60 "VatHouseModel" "kind" "[I") (by decide +kernel)) (fun _ h9 => h9) rfl dX10_recipe_125 ?_
                    refine lv_iload hx hb dX10_recipe_128 (lv_at hl 0 rfl) ?_
                    refine lv_iload hx hb dX10_recipe_130 (lv_at hl 1 rfl) ?_
                    refine lv_iadd hx hb dX10_recipe_132 ?_
                    refine lv_topi (fun z_56 ez_56 => ?_)
                    refine lv_aload_n hx hb dX10_recipe_133 rfl (lv_at hl 3 rfl) ?_
                    refine va_get (D := (dC, dI)) (ci := 10) (v := .ref (b 26)) (C := RX10) (T := TX10) (N := 51) hx hb hts inw_X10_recipe_10 hown hK hP 0 rfl rfl 26 (by decide) (hts (.fieldLink RX10 60 "VatHouseModel" "kind" "[I") (by decide +kernel)) (fun _ h9 => h9) rfl dX10_recipe_134 ?_
                    refine lv_iload hx hb dX10_recipe_137 (lv_at hl 0 rfl) ?_
                    refine va_iald hx hb hK hP 16 15 rfl rfl hkxv dX10_recipe_139 ?_
                    refine lv_topi (fun z_57 ez_57 => ?_)
                    have ez_57 : z_57 = l26 kx.toNatClampNeg := ez_57
                    refine va_iast hx hb hK hP hD hS 16 15 rfl rfl (rc_in ez_56 hkxI hby hr8 hd300).2.2 dX10_recipe_140 (fun H locs hP hD hS => ?_)
                    have hP : va_P (dC, dI) vwCl (mw g h0 b (va_up (va_up (va_up (va_up (va_up (va_up (va_up (va_up (va_up i 0 x0_21) 20 (0 : Int32)) 21 nn) 22 x22_26) 23 x23_27) 24 x24_28) 25 x25_29) 36 x36_30) 38 (0 : Int32)) (va_up (va_up (va_up (va_up (va_up (va_up (va_up (va_up a 26 (upd l26 z_56.toNatClampNeg z_57)) 27 l27) 28 l28) 29 l29) 30 l30) 31 l31) 32 l32) 33 l33)) _ := hP
                    have hD : va_D _ (mw g h0 b (va_up (va_up (va_up (va_up (va_up (va_up (va_up (va_up (va_up i 0 x0_21) 20 (0 : Int32)) 21 nn) 22 x22_26) 23 x23_27) 24 x24_28) 25 x25_29) 36 x36_30) 38 (0 : Int32)) (va_up (va_up (va_up (va_up (va_up (va_up (va_up (va_up a 26 (upd l26 z_56.toNatClampNeg z_57)) 27 l27) 28 l28) 29 l29) 30 l30) 31 l31) 32 l32) 33 l33)) := hD
                    obtain ⟨f_58, ef_58⟩ : ∃ z, z = (upd l26 z_56.toNatClampNeg z_57) := ⟨_, rfl⟩
                    rw [← ef_58] at hP hD
                    refine lv_aload_n hx hb dX10_recipe_141 rfl (lv_at hl 3 rfl) ?_
                    refine va_get (D := (dC, dI)) (ci := 10) (v := .ref (b 27)) (C := RX10) (T := TX10) (N := 51) hx hb hts inw_X10_recipe_10 hown hK hP 0 rfl rfl 27 (by decide) (hts (.fieldLink RX10 63 "VatHouseModel" "one" "[I") (by decide +kernel)) (fun _ h9 => h9) rfl dX10_recipe_142 ?_
                    refine lv_iload hx hb dX10_recipe_145 (lv_at hl 0 rfl) ?_
                    refine lv_iload hx hb dX10_recipe_147 (lv_at hl 1 rfl) ?_
                    refine lv_iadd hx hb dX10_recipe_149 ?_
                    refine lv_topi (fun z_59 ez_59 => ?_)
                    refine lv_aload_n hx hb dX10_recipe_150 rfl (lv_at hl 3 rfl) ?_
                    refine va_get (D := (dC, dI)) (ci := 10) (v := .ref (b 27)) (C := RX10) (T := TX10) (N := 51) hx hb hts inw_X10_recipe_10 hown hK hP 0 rfl rfl 27 (by decide) (hts (.fieldLink RX10 63 "VatHouseModel" "one" "[I") (by decide +kernel)) (fun _ h9 => h9) rfl dX10_recipe_151 ?_
                    refine lv_iload hx hb dX10_recipe_154 (lv_at hl 0 rfl) ?_
                    refine va_iald hx hb hK hP 17 16 rfl rfl hkxv dX10_recipe_156 ?_
                    refine lv_topi (fun z_60 ez_60 => ?_)
                    have ez_60 : z_60 = l27 kx.toNatClampNeg := ez_60
                    refine va_iast hx hb hK hP hD hS 17 16 rfl rfl (rc_in ez_59 hkxI hby hr8 hd300).2.2 dX10_recipe_157 (fun H locs hP hD hS => ?_)
                    have hP : va_P (dC, dI) vwCl (mw g h0 b (va_up (va_up (va_up (va_up (va_up (va_up (va_up (va_up (va_up i 0 x0_21) 20 (0 : Int32)) 21 nn) 22 x22_26) 23 x23_27) 24 x24_28) 25 x25_29) 36 x36_30) 38 (0 : Int32)) (va_up (va_up (va_up (va_up (va_up (va_up (va_up (va_up a 26 f_58) 27 (upd l27 z_59.toNatClampNeg z_60)) 28 l28) 29 l29) 30 l30) 31 l31) 32 l32) 33 l33)) _ := hP
                    have hD : va_D _ (mw g h0 b (va_up (va_up (va_up (va_up (va_up (va_up (va_up (va_up (va_up i 0 x0_21) 20 (0 : Int32)) 21 nn) 22 x22_26) 23 x23_27) 24 x24_28) 25 x25_29) 36 x36_30) 38 (0 : Int32)) (va_up (va_up (va_up (va_up (va_up (va_up (va_up (va_up a 26 f_58) 27 (upd l27 z_59.toNatClampNeg z_60)) 28 l28) 29 l29) 30 l30) 31 l31) 32 l32) 33 l33)) := hD
                    obtain ⟨f_61, ef_61⟩ : ∃ z, z = (upd l27 z_59.toNatClampNeg z_60) := ⟨_, rfl⟩
                    rw [← ef_61] at hP hD
                    refine lv_aload_n hx hb dX10_recipe_158 rfl (lv_at hl 3 rfl) ?_
                    refine va_get (D := (dC, dI)) (ci := 10) (v := .ref (b 28)) (C := RX10) (T := TX10) (N := 51) hx hb hts inw_X10_recipe_10 hown hK hP 0 rfl rfl 28 (by decide) (hts (.fieldLink RX10 66 "VatHouseModel" "two" "[I") (by decide +kernel)) (fun _ h9 => h9) rfl dX10_recipe_159 ?_
                    refine lv_iload hx hb dX10_recipe_162 (lv_at hl 0 rfl) ?_
                    refine lv_iload hx hb dX10_recipe_164 (lv_at hl 1 rfl) ?_
                    refine lv_iadd hx hb dX10_recipe_166 ?_
                    refine lv_topi (fun z_62 ez_62 => ?_)
                    refine lv_aload_n hx hb dX10_recipe_167 rfl (lv_at hl 3 rfl) ?_
                    refine va_get (D := (dC, dI)) (ci := 10) (v := .ref (b 28)) (C := RX10) (T := TX10) (N := 51) hx hb hts inw_X10_recipe_10 hown hK hP 0 rfl rfl 28 (by decide) (hts (.fieldLink RX10 66 "VatHouseModel" "two" "[I") (by decide +kernel)) (fun _ h9 => h9) rfl dX10_recipe_168 ?_
                    refine lv_iload hx hb dX10_recipe_171 (lv_at hl 0 rfl) ?_
                    refine va_iald hx hb hK hP 18 17 rfl rfl hkxv dX10_recipe_173 ?_
                    refine lv_topi (fun z_63 ez_63 => ?_)
                    have ez_63 : z_63 = l28 kx.toNatClampNeg := ez_63
                    refine va_iast hx hb hK hP hD hS 18 17 rfl rfl (rc_in ez_62 hkxI hby hr8 hd300).2.2 dX10_recipe_174 (fun H locs hP hD hS => ?_)
                    have hP : va_P (dC, dI) vwCl (mw g h0 b (va_up (va_up (va_up (va_up (va_up (va_up (va_up (va_up (va_up i 0 x0_21) 20 (0 : Int32)) 21 nn) 22 x22_26) 23 x23_27) 24 x24_28) 25 x25_29) 36 x36_30) 38 (0 : Int32)) (va_up (va_up (va_up (va_up (va_up (va_up (va_up (va_up a 26 f_58) 27 f_61) 28 (upd l28 z_62.toNatClampNeg z_63)) 29 l29) 30 l30) 31 l31) 32 l32) 33 l33)) _ := hP
                    have hD : va_D _ (mw g h0 b (va_up (va_up (va_up (va_up (va_up (va_up (va_up (va_up (va_up i 0 x0_21) 20 (0 : Int32)) 21 nn) 22 x22_26) 23 x23_27) 24 x24_28) 25 x25_29) 36 x36_30) 38 (0 : Int32)) (va_up (va_up (va_up (va_up (va_up (va_up (va_up (va_up a 26 f_58) 27 f_61) 28 (upd l28 z_62.toNatClampNeg z_63)) 29 l29) 30 l30) 31 l31) 32 l32) 33 l33)) := hD
                    obtain ⟨f_64, ef_64⟩ : ∃ z, z = (upd l28 z_62.toNatClampNeg z_63) := ⟨_, rfl⟩
                    rw [← ef_64] at hP hD
                    refine lv_aload_n hx hb dX10_recipe_175 rfl (lv_at hl 3 rfl) ?_
                    refine va_get (D := (dC, dI)) (ci := 10) (v := .ref (b 29)) (C := RX10) (T := TX10) (N := 51) hx hb hts inw_X10_recipe_10 hown hK hP 0 rfl rfl 29 (by decide) (hts (.fieldLink RX10 69 "VatHouseModel" "look" "[I") (by decide +kernel)) (fun _ h9 => h9) rfl dX10_recipe_176 ?_
                    refine lv_iload hx hb dX10_recipe_179 (lv_at hl 0 rfl) ?_
                    refine lv_iload hx hb dX10_recipe_181 (lv_at hl 1 rfl) ?_
                    refine lv_iadd hx hb dX10_recipe_183 ?_
                    refine lv_topi (fun z_65 ez_65 => ?_)
                    refine lv_aload_n hx hb dX10_recipe_184 rfl (lv_at hl 3 rfl) ?_
                    refine va_get (D := (dC, dI)) (ci := 10) (v := .ref (b 29)) (C := RX10) (T := TX10) (N := 51) hx hb hts inw_X10_recipe_10 hown hK hP 0 rfl rfl 29 (by decide) (hts (.fieldLink RX10 69 "VatHouseModel" "look" "[I") (by decide +kernel)) (fun _ h9 => h9) rfl dX10_recipe_185 ?_
                    refine lv_iload hx hb dX10_recipe_188 (lv_at hl 0 rfl) ?_
                    refine va_iald hx hb hK hP 19 18 rfl rfl hkxv dX10_recipe_190 ?_
                    refine lv_topi (fun z_66 ez_66 => ?_)
                    have ez_66 : z_66 = l29 kx.toNatClampNeg := ez_66
                    refine va_iast hx hb hK hP hD hS 19 18 rfl rfl (rc_in ez_65 hkxI hby hr8 hd300).2.2 dX10_recipe_191 (fun H locs hP hD hS => ?_)
                    have hP : va_P (dC, dI) vwCl (mw g h0 b (va_up (va_up (va_up (va_up (va_up (va_up (va_up (va_up (va_up i 0 x0_21) 20 (0 : Int32)) 21 nn) 22 x22_26) 23 x23_27) 24 x24_28) 25 x25_29) 36 x36_30) 38 (0 : Int32)) (va_up (va_up (va_up (va_up (va_up (va_up (va_up (va_up a 26 f_58) 27 f_61) 28 f_64) 29 (upd l29 z_65.toNatClampNeg z_66)) 30 l30) 31 l31) 32 l32) 33 l33)) _ := hP
                    have hD : va_D _ (mw g h0 b (va_up (va_up (va_up (va_up (va_up (va_up (va_up (va_up (va_up i 0 x0_21) 20 (0 : Int32)) 21 nn) 22 x22_26) 23 x23_27) 24 x24_28) 25 x25_29) 36 x36_30) 38 (0 : Int32)) (va_up (va_up (va_up (va_up (va_up (va_up (va_up (va_up a 26 f_58) 27 f_61) 28 f_64) 29 (upd l29 z_65.toNatClampNeg z_66)) 30 l30) 31 l31) 32 l32) 33 l33)) := hD
                    obtain ⟨f_67, ef_67⟩ : ∃ z, z = (upd l29 z_65.toNatClampNeg z_66) := ⟨_, rfl⟩
                    rw [← ef_67] at hP hD
                    refine lv_aload_n hx hb dX10_recipe_192 rfl (lv_at hl 3 rfl) ?_
                    refine va_get (D := (dC, dI)) (ci := 10) (v := .ref (b 30)) (C := RX10) (T := TX10) (N := 51) hx hb hts inw_X10_recipe_10 hown hK hP 0 rfl rfl 30 (by decide) (hts (.fieldLink RX10 72 "VatHouseModel" "sign" "[I") (by decide +kernel)) (fun _ h9 => h9) rfl dX10_recipe_193 ?_
                    refine lv_iload hx hb dX10_recipe_196 (lv_at hl 0 rfl) ?_
                    refine lv_iload hx hb dX10_recipe_198 (lv_at hl 1 rfl) ?_
                    refine lv_iadd hx hb dX10_recipe_200 ?_
                    refine lv_topi (fun z_68 ez_68 => ?_)
                    refine lv_aload_n hx hb dX10_recipe_201 rfl (lv_at hl 3 rfl) ?_
                    refine va_get (D := (dC, dI)) (ci := 10) (v := .ref (b 30)) (C := RX10) (T := TX10) (N := 51) hx hb hts inw_X10_recipe_10 hown hK hP 0 rfl rfl 30 (by decide) (hts (.fieldLink RX10 72 "VatHouseModel" "sign" "[I") (by decide +kernel)) (fun _ h9 => h9) rfl dX10_recipe_202 ?_
                    refine lv_iload hx hb dX10_recipe_205 (lv_at hl 0 rfl) ?_
                    refine va_iald hx hb hK hP 20 19 rfl rfl hkxv dX10_recipe_207 ?_
                    refine lv_topi (fun z_69 ez_69 => ?_)
                    have ez_69 : z_69 = l30 kx.toNatClampNeg := ez_69
                    refine va_iast hx hb hK hP hD hS 20 19 rfl rfl (rc_in ez_68 hkxI hby hr8 hd300).2.2 dX10_recipe_208 (fun H locs hP hD hS => ?_)
                    have hP : va_P (dC, dI) vwCl (mw g h0 b (va_up (va_up (va_up (va_up (va_up (va_up (va_up (va_up (va_up i 0 x0_21) 20 (0 : Int32)) 21 nn) 22 x22_26) 23 x23_27) 24 x24_28) 25 x25_29) 36 x36_30) 38 (0 : Int32)) (va_up (va_up (va_up (va_up (va_up (va_up (va_up (va_up a 26 f_58) 27 f_61) 28 f_64) 29 f_67) 30 (upd l30 z_68.toNatClampNeg z_69)) 31 l31) 32 l32) 33 l33)) _ := hP
                    have hD : va_D _ (mw g h0 b (va_up (va_up (va_up (va_up (va_up (va_up (va_up (va_up (va_up i 0 x0_21) 20 (0 : Int32)) 21 nn) 22 x22_26) 23 x23_27) 24 x24_28) 25 x25_29) 36 x36_30) 38 (0 : Int32)) (va_up (va_up (va_up (va_up (va_up (va_up (va_up (va_up a 26 f_58) 27 f_61) 28 f_64) 29 f_67) 30 (upd l30 z_68.toNatClampNeg z_69)) 31 l31) 32 l32) 33 l33)) := hD
                    obtain ⟨f_70, ef_70⟩ : ∃ z, z = (upd l30 z_68.toNatClampNeg z_69) := ⟨_, rfl⟩
                    rw [← ef_70] at hP hD
                    refine lv_aload_n hx hb dX10_recipe_209 rfl (lv_at hl 3 rfl) ?_
                    refine va_get (D := (dC, dI)) (ci := 10) (v := .ref (b 31)) (C := RX10) (T := TX10) (N := 51) hx hb hts inw_X10_recipe_10 hown hK hP 0 rfl rfl 31 (by decide) (hts (.fieldLink RX10 75 "VatHouseModel" "inner" "[I") (by decide +kernel)) (fun _ h9 => h9) rfl dX10_recipe_210 ?_
                    refine lv_iload hx hb dX10_recipe_213 (lv_at hl 0 rfl) ?_
                    refine lv_iload hx hb dX10_recipe_215 (lv_at hl 1 rfl) ?_
                    refine lv_iadd hx hb dX10_recipe_217 ?_
                    refine lv_topi (fun z_71 ez_71 => ?_)
                    refine lv_aload_n hx hb dX10_recipe_218 rfl (lv_at hl 3 rfl) ?_
                    refine va_get (D := (dC, dI)) (ci := 10) (v := .ref (b 31)) (C := RX10) (T := TX10) (N := 51) hx hb hts inw_X10_recipe_10 hown hK hP 0 rfl rfl 31 (by decide) (hts (.fieldLink RX10 75 "VatHouseModel" "inner" "[I") (by decide +kernel)) (fun _ h9 => h9) rfl dX10_recipe_219 ?_
                    refine lv_iload hx hb dX10_recipe_222 (lv_at hl 0 rfl) ?_
                    refine va_iald hx hb hK hP 21 20 rfl rfl hkxv dX10_recipe_224 ?_
                    refine lv_topi (fun z_72 ez_72 => ?_)
                    have ez_72 : z_72 = l31 kx.toNatClampNeg := ez_72
                    refine lv_iconst (v := (-1)) hx hb dX10_recipe_225 (by decide) ?_
                    refine lv_icmp_ne (tgt := 233) hx hb dX10_recipe_226 (by decide) (fun c_73 => ?_) (fun c_73 => ?_)
                    · have nc_73 := ne_i c_73
                      have lc_73 : ((-1) : Int32).toInt = -1 := by decide
                      refine lv_aload_n hx hb dX10_recipe_233 rfl (lv_at hl 3 rfl) ?_
                      refine va_get (D := (dC, dI)) (ci := 10) (v := .ref (b 31)) (C := RX10) (T := TX10) (N := 51) hx hb hts inw_X10_recipe_10 hown hK hP 0 rfl rfl 31 (by decide) (hts (.fieldLink RX10 75 "VatHouseModel" "inner" "[I") (by decide +kernel)) (fun _ h9 => h9) rfl dX10_recipe_234 ?_
                      refine lv_iload hx hb dX10_recipe_237 (lv_at hl 0 rfl) ?_
                      refine va_iald hx hb hK hP 21 20 rfl rfl hkxv dX10_recipe_239 ?_
                      refine lv_topi (fun z_74 ez_74 => ?_)
                      have ez_74 : z_74 = l31 kx.toNatClampNeg := ez_74
                      refine lv_iload hx hb dX10_recipe_240 (lv_at hl 1 rfl) ?_
                      refine lv_iadd hx hb dX10_recipe_242 ?_
                      refine lv_topi (fun z_75 ez_75 => ?_)
                      refine va_iast hx hb hK hP hD hS 21 20 rfl rfl (rc_in ez_71 hkxI hby hr8 hd300).2.2 dX10_recipe_243 (fun H locs hP hD hS => ?_)
                      have hP : va_P (dC, dI) vwCl (mw g h0 b (va_up (va_up (va_up (va_up (va_up (va_up (va_up (va_up (va_up i 0 x0_21) 20 (0 : Int32)) 21 nn) 22 x22_26) 23 x23_27) 24 x24_28) 25 x25_29) 36 x36_30) 38 (0 : Int32)) (va_up (va_up (va_up (va_up (va_up (va_up (va_up (va_up a 26 f_58) 27 f_61) 28 f_64) 29 f_67) 30 f_70) 31 (upd l31 z_71.toNatClampNeg z_75)) 32 l32) 33 l33)) _ := hP
                      have hD : va_D _ (mw g h0 b (va_up (va_up (va_up (va_up (va_up (va_up (va_up (va_up (va_up i 0 x0_21) 20 (0 : Int32)) 21 nn) 22 x22_26) 23 x23_27) 24 x24_28) 25 x25_29) 36 x36_30) 38 (0 : Int32)) (va_up (va_up (va_up (va_up (va_up (va_up (va_up (va_up a 26 f_58) 27 f_61) 28 f_64) 29 f_67) 30 f_70) 31 (upd l31 z_71.toNatClampNeg z_75)) 32 l32) 33 l33)) := hD
                      obtain ⟨f_76, ef_76⟩ : ∃ z, z = (upd l31 z_71.toNatClampNeg z_75) := ⟨_, rfl⟩
                      rw [← ef_76] at hP hD
                      refine lv_aload_n hx hb dX10_recipe_244 rfl (lv_at hl 3 rfl) ?_
                      refine va_get (D := (dC, dI)) (ci := 10) (v := .ref (b 32)) (C := RX10) (T := TX10) (N := 51) hx hb hts inw_X10_recipe_10 hown hK hP 0 rfl rfl 32 (by decide) (hts (.fieldLink RX10 78 "VatHouseModel" "other" "[I") (by decide +kernel)) (fun _ h9 => h9) rfl dX10_recipe_245 ?_
                      refine lv_iload hx hb dX10_recipe_248 (lv_at hl 0 rfl) ?_
                      refine lv_iload hx hb dX10_recipe_250 (lv_at hl 1 rfl) ?_
                      refine lv_iadd hx hb dX10_recipe_252 ?_
                      refine lv_topi (fun z_77 ez_77 => ?_)
                      refine lv_aload_n hx hb dX10_recipe_253 rfl (lv_at hl 3 rfl) ?_
                      refine va_get (D := (dC, dI)) (ci := 10) (v := .ref (b 32)) (C := RX10) (T := TX10) (N := 51) hx hb hts inw_X10_recipe_10 hown hK hP 0 rfl rfl 32 (by decide) (hts (.fieldLink RX10 78 "VatHouseModel" "other" "[I") (by decide +kernel)) (fun _ h9 => h9) rfl dX10_recipe_254 ?_
                      refine lv_iload hx hb dX10_recipe_257 (lv_at hl 0 rfl) ?_
                      refine va_iald hx hb hK hP 22 21 rfl rfl hkxv dX10_recipe_259 ?_
                      refine lv_topi (fun z_78 ez_78 => ?_)
                      have ez_78 : z_78 = l32 kx.toNatClampNeg := ez_78
                      refine lv_iconst (v := (-1)) hx hb dX10_recipe_260 (by decide) ?_
                      refine lv_icmp_ne (tgt := 268) hx hb dX10_recipe_261 (by decide) (fun c_79 => ?_) (fun c_79 => ?_)
                      · have nc_79 := ne_i c_79
                        have lc_79 : ((-1) : Int32).toInt = -1 := by decide
                        refine lv_aload_n hx hb dX10_recipe_268 rfl (lv_at hl 3 rfl) ?_
                        refine va_get (D := (dC, dI)) (ci := 10) (v := .ref (b 32)) (C := RX10) (T := TX10) (N := 51) hx hb hts inw_X10_recipe_10 hown hK hP 0 rfl rfl 32 (by decide) (hts (.fieldLink RX10 78 "VatHouseModel" "other" "[I") (by decide +kernel)) (fun _ h9 => h9) rfl dX10_recipe_269 ?_
                        refine lv_iload hx hb dX10_recipe_272 (lv_at hl 0 rfl) ?_
                        refine va_iald hx hb hK hP 22 21 rfl rfl hkxv dX10_recipe_274 ?_
                        refine lv_topi (fun z_80 ez_80 => ?_)
                        have ez_80 : z_80 = l32 kx.toNatClampNeg := ez_80
                        refine lv_iload hx hb dX10_recipe_275 (lv_at hl 1 rfl) ?_
                        refine lv_iadd hx hb dX10_recipe_277 ?_
                        refine lv_topi (fun z_81 ez_81 => ?_)
                        refine va_iast hx hb hK hP hD hS 22 21 rfl rfl (rc_in ez_77 hkxI hby hr8 hd300).2.2 dX10_recipe_278 (fun H locs hP hD hS => ?_)
                        have hP : va_P (dC, dI) vwCl (mw g h0 b (va_up (va_up (va_up (va_up (va_up (va_up (va_up (va_up (va_up i 0 x0_21) 20 (0 : Int32)) 21 nn) 22 x22_26) 23 x23_27) 24 x24_28) 25 x25_29) 36 x36_30) 38 (0 : Int32)) (va_up (va_up (va_up (va_up (va_up (va_up (va_up (va_up a 26 f_58) 27 f_61) 28 f_64) 29 f_67) 30 f_70) 31 f_76) 32 (upd l32 z_77.toNatClampNeg z_81)) 33 l33)) _ := hP
                        have hD : va_D _ (mw g h0 b (va_up (va_up (va_up (va_up (va_up (va_up (va_up (va_up (va_up i 0 x0_21) 20 (0 : Int32)) 21 nn) 22 x22_26) 23 x23_27) 24 x24_28) 25 x25_29) 36 x36_30) 38 (0 : Int32)) (va_up (va_up (va_up (va_up (va_up (va_up (va_up (va_up a 26 f_58) 27 f_61) 28 f_64) 29 f_67) 30 f_70) 31 f_76) 32 (upd l32 z_77.toNatClampNeg z_81)) 33 l33)) := hD
                        obtain ⟨f_82, ef_82⟩ : ∃ z, z = (upd l32 z_77.toNatClampNeg z_81) := ⟨_, rfl⟩
                        rw [← ef_82] at hP hD
                        refine lv_aload_n hx hb dX10_recipe_279 rfl (lv_at hl 3 rfl) ?_
                        refine va_get (D := (dC, dI)) (ci := 10) (v := .ref (b 33)) (C := RX10) (T := TX10) (N := 51) hx hb hts inw_X10_recipe_10 hown hK hP 0 rfl rfl 33 (by decide) (hts (.fieldLink RX10 81 "VatHouseModel" "next" "[I") (by decide +kernel)) (fun _ h9 => h9) rfl dX10_recipe_280 ?_
                        refine lv_iload hx hb dX10_recipe_283 (lv_at hl 0 rfl) ?_
                        refine lv_iload hx hb dX10_recipe_285 (lv_at hl 1 rfl) ?_
                        refine lv_iadd hx hb dX10_recipe_287 ?_
                        refine lv_topi (fun z_83 ez_83 => ?_)
                        refine lv_aload_n hx hb dX10_recipe_288 rfl (lv_at hl 3 rfl) ?_
                        refine va_get (D := (dC, dI)) (ci := 10) (v := .ref (b 33)) (C := RX10) (T := TX10) (N := 51) hx hb hts inw_X10_recipe_10 hown hK hP 0 rfl rfl 33 (by decide) (hts (.fieldLink RX10 81 "VatHouseModel" "next" "[I") (by decide +kernel)) (fun _ h9 => h9) rfl dX10_recipe_289 ?_
                        refine lv_iload hx hb dX10_recipe_292 (lv_at hl 0 rfl) ?_
                        refine va_iald hx hb hK hP 23 22 rfl rfl hkxv dX10_recipe_294 ?_
                        refine lv_topi (fun z_84 ez_84 => ?_)
                        have ez_84 : z_84 = l33 kx.toNatClampNeg := ez_84
                        refine lv_iconst (v := (-1)) hx hb dX10_recipe_295 (by decide) ?_
                        refine lv_icmp_ne (tgt := 303) hx hb dX10_recipe_296 (by decide) (fun c_85 => ?_) (fun c_85 => ?_)
                        · have nc_85 := ne_i c_85
                          have lc_85 : ((-1) : Int32).toInt = -1 := by decide
                          refine lv_aload_n hx hb dX10_recipe_303 rfl (lv_at hl 3 rfl) ?_
                          refine va_get (D := (dC, dI)) (ci := 10) (v := .ref (b 33)) (C := RX10) (T := TX10) (N := 51) hx hb hts inw_X10_recipe_10 hown hK hP 0 rfl rfl 33 (by decide) (hts (.fieldLink RX10 81 "VatHouseModel" "next" "[I") (by decide +kernel)) (fun _ h9 => h9) rfl dX10_recipe_304 ?_
                          refine lv_iload hx hb dX10_recipe_307 (lv_at hl 0 rfl) ?_
                          refine va_iald hx hb hK hP 23 22 rfl rfl hkxv dX10_recipe_309 ?_
                          refine lv_topi (fun z_86 ez_86 => ?_)
                          have ez_86 : z_86 = l33 kx.toNatClampNeg := ez_86
                          refine lv_iload hx hb dX10_recipe_310 (lv_at hl 1 rfl) ?_
                          refine lv_iadd hx hb dX10_recipe_312 ?_
                          refine lv_topi (fun z_87 ez_87 => ?_)
                          refine va_iast hx hb hK hP hD hS 23 22 rfl rfl (rc_in ez_83 hkxI hby hr8 hd300).2.2 dX10_recipe_313 (fun H locs hP hD hS => ?_)
                          have hP : va_P (dC, dI) vwCl (mw g h0 b (va_up (va_up (va_up (va_up (va_up (va_up (va_up (va_up (va_up i 0 x0_21) 20 (0 : Int32)) 21 nn) 22 x22_26) 23 x23_27) 24 x24_28) 25 x25_29) 36 x36_30) 38 (0 : Int32)) (va_up (va_up (va_up (va_up (va_up (va_up (va_up (va_up a 26 f_58) 27 f_61) 28 f_64) 29 f_67) 30 f_70) 31 f_76) 32 f_82) 33 (upd l33 z_83.toNatClampNeg z_87))) _ := hP
                          have hD : va_D _ (mw g h0 b (va_up (va_up (va_up (va_up (va_up (va_up (va_up (va_up (va_up i 0 x0_21) 20 (0 : Int32)) 21 nn) 22 x22_26) 23 x23_27) 24 x24_28) 25 x25_29) 36 x36_30) 38 (0 : Int32)) (va_up (va_up (va_up (va_up (va_up (va_up (va_up (va_up a 26 f_58) 27 f_61) 28 f_64) 29 f_67) 30 f_70) 31 f_76) 32 f_82) 33 (upd l33 z_83.toNatClampNeg z_87))) := hD
                          obtain ⟨f_88, ef_88⟩ : ∃ z, z = (upd l33 z_83.toNatClampNeg z_87) := ⟨_, rfl⟩
                          rw [← ef_88] at hP hD
                          refine lv_iinc (v := (kx + 1)) (lv' := [(5, .int (kx + 1)), (4, .int z_47), (3, .int z_40), (0, .ref h0), (1, .int rr), (2, .int nn)]) hx hb dX10_recipe_314 hl (k := 0) rfl rfl (by decide) rfl (fun ls hl => ?_)
                          refine lv_goto (tgt := 111) hx hb dX10_recipe_317 (by decide) ?_
                          exact ih (kx + 1) f_58 f_61 f_64 f_67 f_70 f_76 f_82 f_88 _ _ _ (rc_nx hm hkxI hd3) (⟨d + 1, by rw [hd1]; exact nI_1 (2400 + d), by omega, by rw [ef_58, ef_61, ef_76, ef_82, ef_88]; exact CP.step hcp hr8 (rc_in ez_56 hkxI hby hr8 hd300).2.1 (rc_in ez_59 hkxI hby hr8 hd300).2.1 (rc_in ez_71 hkxI hby hr8 hd300).2.1 (rc_in ez_77 hkxI hby hr8 hd300).2.1 (rc_in ez_83 hkxI hby hr8 hd300).2.1 (by rw [ez_57, hkxc]) (by rw [ez_60, hkxc]) (by rw [shf, if_neg (by rw [← hkxc, ← ez_72]; exact c_73), ez_75, ez_74, hkxc]) (by rw [shf, if_neg (by rw [← hkxc, ← ez_78]; exact c_79), ez_81, ez_80, hkxc]) (by rw [shf, if_neg (by rw [← hkxc, ← ez_84]; exact c_85), ez_87, ez_86, hkxc])⟩) hP hD hS (lv_sub hl [0, 1, 2, 3, 4, 5] rfl)
                        · have nc_85 := eq_i c_85
                          have lc_85 : ((-1) : Int32).toInt = -1 := by decide
                          refine lv_iconst (v := (-1)) hx hb dX10_recipe_299 (by decide) ?_
                          refine lv_goto (tgt := 313) hx hb dX10_recipe_300 (by decide) ?_
                          refine va_iast hx hb hK hP hD hS 23 22 rfl rfl (rc_in ez_83 hkxI hby hr8 hd300).2.2 dX10_recipe_313 (fun H locs hP hD hS => ?_)
                          have hP : va_P (dC, dI) vwCl (mw g h0 b (va_up (va_up (va_up (va_up (va_up (va_up (va_up (va_up (va_up i 0 x0_21) 20 (0 : Int32)) 21 nn) 22 x22_26) 23 x23_27) 24 x24_28) 25 x25_29) 36 x36_30) 38 (0 : Int32)) (va_up (va_up (va_up (va_up (va_up (va_up (va_up (va_up a 26 f_58) 27 f_61) 28 f_64) 29 f_67) 30 f_70) 31 f_76) 32 f_82) 33 (upd l33 z_83.toNatClampNeg ((-1) : Int32)))) _ := hP
                          have hD : va_D _ (mw g h0 b (va_up (va_up (va_up (va_up (va_up (va_up (va_up (va_up (va_up i 0 x0_21) 20 (0 : Int32)) 21 nn) 22 x22_26) 23 x23_27) 24 x24_28) 25 x25_29) 36 x36_30) 38 (0 : Int32)) (va_up (va_up (va_up (va_up (va_up (va_up (va_up (va_up a 26 f_58) 27 f_61) 28 f_64) 29 f_67) 30 f_70) 31 f_76) 32 f_82) 33 (upd l33 z_83.toNatClampNeg ((-1) : Int32)))) := hD
                          obtain ⟨f_89, ef_89⟩ : ∃ z, z = (upd l33 z_83.toNatClampNeg ((-1) : Int32)) := ⟨_, rfl⟩
                          rw [← ef_89] at hP hD
                          refine lv_iinc (v := (kx + 1)) (lv' := [(5, .int (kx + 1)), (4, .int z_47), (3, .int z_40), (0, .ref h0), (1, .int rr), (2, .int nn)]) hx hb dX10_recipe_314 hl (k := 0) rfl rfl (by decide) rfl (fun ls hl => ?_)
                          refine lv_goto (tgt := 111) hx hb dX10_recipe_317 (by decide) ?_
                          exact ih (kx + 1) f_58 f_61 f_64 f_67 f_70 f_76 f_82 f_89 _ _ _ (rc_nx hm hkxI hd3) (⟨d + 1, by rw [hd1]; exact nI_1 (2400 + d), by omega, by rw [ef_58, ef_61, ef_76, ef_82, ef_89]; exact CP.step hcp hr8 (rc_in ez_56 hkxI hby hr8 hd300).2.1 (rc_in ez_59 hkxI hby hr8 hd300).2.1 (rc_in ez_71 hkxI hby hr8 hd300).2.1 (rc_in ez_77 hkxI hby hr8 hd300).2.1 (rc_in ez_83 hkxI hby hr8 hd300).2.1 (by rw [ez_57, hkxc]) (by rw [ez_60, hkxc]) (by rw [shf, if_neg (by rw [← hkxc, ← ez_72]; exact c_73), ez_75, ez_74, hkxc]) (by rw [shf, if_neg (by rw [← hkxc, ← ez_78]; exact c_79), ez_81, ez_80, hkxc]) (by rw [shf, if_pos (by rw [← hkxc, ← ez_84]; exact c_85)])⟩) hP hD hS (lv_sub hl [0, 1, 2, 3, 4, 5] rfl)
                      · have nc_79 := eq_i c_79
                        have lc_79 : ((-1) : Int32).toInt = -1 := by decide
                        refine lv_iconst (v := (-1)) hx hb dX10_recipe_264 (by decide) ?_
                        refine lv_goto (tgt := 278) hx hb dX10_recipe_265 (by decide) ?_
                        refine va_iast hx hb hK hP hD hS 22 21 rfl rfl (rc_in ez_77 hkxI hby hr8 hd300).2.2 dX10_recipe_278 (fun H locs hP hD hS => ?_)
                        have hP : va_P (dC, dI) vwCl (mw g h0 b (va_up (va_up (va_up (va_up (va_up (va_up (va_up (va_up (va_up i 0 x0_21) 20 (0 : Int32)) 21 nn) 22 x22_26) 23 x23_27) 24 x24_28) 25 x25_29) 36 x36_30) 38 (0 : Int32)) (va_up (va_up (va_up (va_up (va_up (va_up (va_up (va_up a 26 f_58) 27 f_61) 28 f_64) 29 f_67) 30 f_70) 31 f_76) 32 (upd l32 z_77.toNatClampNeg ((-1) : Int32))) 33 l33)) _ := hP
                        have hD : va_D _ (mw g h0 b (va_up (va_up (va_up (va_up (va_up (va_up (va_up (va_up (va_up i 0 x0_21) 20 (0 : Int32)) 21 nn) 22 x22_26) 23 x23_27) 24 x24_28) 25 x25_29) 36 x36_30) 38 (0 : Int32)) (va_up (va_up (va_up (va_up (va_up (va_up (va_up (va_up a 26 f_58) 27 f_61) 28 f_64) 29 f_67) 30 f_70) 31 f_76) 32 (upd l32 z_77.toNatClampNeg ((-1) : Int32))) 33 l33)) := hD
                        obtain ⟨f_90, ef_90⟩ : ∃ z, z = (upd l32 z_77.toNatClampNeg ((-1) : Int32)) := ⟨_, rfl⟩
                        rw [← ef_90] at hP hD
                        refine lv_aload_n hx hb dX10_recipe_279 rfl (lv_at hl 3 rfl) ?_
                        refine va_get (D := (dC, dI)) (ci := 10) (v := .ref (b 33)) (C := RX10) (T := TX10) (N := 51) hx hb hts inw_X10_recipe_10 hown hK hP 0 rfl rfl 33 (by decide) (hts (.fieldLink RX10 81 "VatHouseModel" "next" "[I") (by decide +kernel)) (fun _ h9 => h9) rfl dX10_recipe_280 ?_
                        refine lv_iload hx hb dX10_recipe_283 (lv_at hl 0 rfl) ?_
                        refine lv_iload hx hb dX10_recipe_285 (lv_at hl 1 rfl) ?_
                        refine lv_iadd hx hb dX10_recipe_287 ?_
                        refine lv_topi (fun z_91 ez_91 => ?_)
                        refine lv_aload_n hx hb dX10_recipe_288 rfl (lv_at hl 3 rfl) ?_
                        refine va_get (D := (dC, dI)) (ci := 10) (v := .ref (b 33)) (C := RX10) (T := TX10) (N := 51) hx hb hts inw_X10_recipe_10 hown hK hP 0 rfl rfl 33 (by decide) (hts (.fieldLink RX10 81 "VatHouseModel" "next" "[I") (by decide +kernel)) (fun _ h9 => h9) rfl dX10_recipe_289 ?_
                        refine lv_iload hx hb dX10_recipe_292 (lv_at hl 0 rfl) ?_
                        refine va_iald hx hb hK hP 23 22 rfl rfl hkxv dX10_recipe_294 ?_
                        refine lv_topi (fun z_92 ez_92 => ?_)
                        have ez_92 : z_92 = l33 kx.toNatClampNeg := ez_92
                        refine lv_iconst (v := (-1)) hx hb dX10_recipe_295 (by decide) ?_
                        refine lv_icmp_ne (tgt := 303) hx hb dX10_recipe_296 (by decide) (fun c_93 => ?_) (fun c_93 => ?_)
                        · have nc_93 := ne_i c_93
                          have lc_93 : ((-1) : Int32).toInt = -1 := by decide
                          refine lv_aload_n hx hb dX10_recipe_303 rfl (lv_at hl 3 rfl) ?_
                          refine va_get (D := (dC, dI)) (ci := 10) (v := .ref (b 33)) (C := RX10) (T := TX10) (N := 51) hx hb hts inw_X10_recipe_10 hown hK hP 0 rfl rfl 33 (by decide) (hts (.fieldLink RX10 81 "VatHouseModel" "next" "[I") (by decide +kernel)) (fun _ h9 => h9) rfl dX10_recipe_304 ?_
                          refine lv_iload hx hb dX10_recipe_307 (lv_at hl 0 rfl) ?_
                          refine va_iald hx hb hK hP 23 22 rfl rfl hkxv dX10_recipe_309 ?_
                          refine lv_topi (fun z_94 ez_94 => ?_)
                          have ez_94 : z_94 = l33 kx.toNatClampNeg := ez_94
                          refine lv_iload hx hb dX10_recipe_310 (lv_at hl 1 rfl) ?_
                          refine lv_iadd hx hb dX10_recipe_312 ?_
                          refine lv_topi (fun z_95 ez_95 => ?_)
                          refine va_iast hx hb hK hP hD hS 23 22 rfl rfl (rc_in ez_91 hkxI hby hr8 hd300).2.2 dX10_recipe_313 (fun H locs hP hD hS => ?_)
                          have hP : va_P (dC, dI) vwCl (mw g h0 b (va_up (va_up (va_up (va_up (va_up (va_up (va_up (va_up (va_up i 0 x0_21) 20 (0 : Int32)) 21 nn) 22 x22_26) 23 x23_27) 24 x24_28) 25 x25_29) 36 x36_30) 38 (0 : Int32)) (va_up (va_up (va_up (va_up (va_up (va_up (va_up (va_up a 26 f_58) 27 f_61) 28 f_64) 29 f_67) 30 f_70) 31 f_76) 32 f_90) 33 (upd l33 z_91.toNatClampNeg z_95))) _ := hP
                          have hD : va_D _ (mw g h0 b (va_up (va_up (va_up (va_up (va_up (va_up (va_up (va_up (va_up i 0 x0_21) 20 (0 : Int32)) 21 nn) 22 x22_26) 23 x23_27) 24 x24_28) 25 x25_29) 36 x36_30) 38 (0 : Int32)) (va_up (va_up (va_up (va_up (va_up (va_up (va_up (va_up a 26 f_58) 27 f_61) 28 f_64) 29 f_67) 30 f_70) 31 f_76) 32 f_90) 33 (upd l33 z_91.toNatClampNeg z_95))) := hD
                          obtain ⟨f_96, ef_96⟩ : ∃ z, z = (upd l33 z_91.toNatClampNeg z_95) := ⟨_, rfl⟩
                          rw [← ef_96] at hP hD
                          refine lv_iinc (v := (kx + 1)) (lv' := [(5, .int (kx + 1)), (4, .int z_47), (3, .int z_40), (0, .ref h0), (1, .int rr), (2, .int nn)]) hx hb dX10_recipe_314 hl (k := 0) rfl rfl (by decide) rfl (fun ls hl => ?_)
                          refine lv_goto (tgt := 111) hx hb dX10_recipe_317 (by decide) ?_
                          exact ih (kx + 1) f_58 f_61 f_64 f_67 f_70 f_76 f_90 f_96 _ _ _ (rc_nx hm hkxI hd3) (⟨d + 1, by rw [hd1]; exact nI_1 (2400 + d), by omega, by rw [ef_58, ef_61, ef_76, ef_90, ef_96]; exact CP.step hcp hr8 (rc_in ez_56 hkxI hby hr8 hd300).2.1 (rc_in ez_59 hkxI hby hr8 hd300).2.1 (rc_in ez_71 hkxI hby hr8 hd300).2.1 (rc_in ez_77 hkxI hby hr8 hd300).2.1 (rc_in ez_91 hkxI hby hr8 hd300).2.1 (by rw [ez_57, hkxc]) (by rw [ez_60, hkxc]) (by rw [shf, if_neg (by rw [← hkxc, ← ez_72]; exact c_73), ez_75, ez_74, hkxc]) (by rw [shf, if_pos (by rw [← hkxc, ← ez_78]; exact c_79)]) (by rw [shf, if_neg (by rw [← hkxc, ← ez_92]; exact c_93), ez_95, ez_94, hkxc])⟩) hP hD hS (lv_sub hl [0, 1, 2, 3, 4, 5] rfl)
                        · have nc_93 := eq_i c_93
                          have lc_93 : ((-1) : Int32).toInt = -1 := by decide
                          refine lv_iconst (v := (-1)) hx hb dX10_recipe_299 (by decide) ?_
                          refine lv_goto (tgt := 313) hx hb dX10_recipe_300 (by decide) ?_
                          refine va_iast hx hb hK hP hD hS 23 22 rfl rfl (rc_in ez_91 hkxI hby hr8 hd300).2.2 dX10_recipe_313 (fun H locs hP hD hS => ?_)
                          have hP : va_P (dC, dI) vwCl (mw g h0 b (va_up (va_up (va_up (va_up (va_up (va_up (va_up (va_up (va_up i 0 x0_21) 20 (0 : Int32)) 21 nn) 22 x22_26) 23 x23_27) 24 x24_28) 25 x25_29) 36 x36_30) 38 (0 : Int32)) (va_up (va_up (va_up (va_up (va_up (va_up (va_up (va_up a 26 f_58) 27 f_61) 28 f_64) 29 f_67) 30 f_70) 31 f_76) 32 f_90) 33 (upd l33 z_91.toNatClampNeg ((-1) : Int32)))) _ := hP
                          have hD : va_D _ (mw g h0 b (va_up (va_up (va_up (va_up (va_up (va_up (va_up (va_up (va_up i 0 x0_21) 20 (0 : Int32)) 21 nn) 22 x22_26) 23 x23_27) 24 x24_28) 25 x25_29) 36 x36_30) 38 (0 : Int32)) (va_up (va_up (va_up (va_up (va_up (va_up (va_up (va_up a 26 f_58) 27 f_61) 28 f_64) 29 f_67) 30 f_70) 31 f_76) 32 f_90) 33 (upd l33 z_91.toNatClampNeg ((-1) : Int32)))) := hD
                          obtain ⟨f_97, ef_97⟩ : ∃ z, z = (upd l33 z_91.toNatClampNeg ((-1) : Int32)) := ⟨_, rfl⟩
                          rw [← ef_97] at hP hD
                          refine lv_iinc (v := (kx + 1)) (lv' := [(5, .int (kx + 1)), (4, .int z_47), (3, .int z_40), (0, .ref h0), (1, .int rr), (2, .int nn)]) hx hb dX10_recipe_314 hl (k := 0) rfl rfl (by decide) rfl (fun ls hl => ?_)
                          refine lv_goto (tgt := 111) hx hb dX10_recipe_317 (by decide) ?_
                          exact ih (kx + 1) f_58 f_61 f_64 f_67 f_70 f_76 f_90 f_97 _ _ _ (rc_nx hm hkxI hd3) (⟨d + 1, by rw [hd1]; exact nI_1 (2400 + d), by omega, by rw [ef_58, ef_61, ef_76, ef_90, ef_97]; exact CP.step hcp hr8 (rc_in ez_56 hkxI hby hr8 hd300).2.1 (rc_in ez_59 hkxI hby hr8 hd300).2.1 (rc_in ez_71 hkxI hby hr8 hd300).2.1 (rc_in ez_77 hkxI hby hr8 hd300).2.1 (rc_in ez_91 hkxI hby hr8 hd300).2.1 (by rw [ez_57, hkxc]) (by rw [ez_60, hkxc]) (by rw [shf, if_neg (by rw [← hkxc, ← ez_72]; exact c_73), ez_75, ez_74, hkxc]) (by rw [shf, if_pos (by rw [← hkxc, ← ez_78]; exact c_79)]) (by rw [shf, if_pos (by rw [← hkxc, ← ez_92]; exact c_93)])⟩) hP hD hS (lv_sub hl [0, 1, 2, 3, 4, 5] rfl)
                    · have nc_73 := eq_i c_73
                      have lc_73 : ((-1) : Int32).toInt = -1 := by decide
                      refine lv_iconst (v := (-1)) hx hb dX10_recipe_229 (by decide) ?_
                      refine lv_goto (tgt := 243) hx hb dX10_recipe_230 (by decide) ?_
                      refine va_iast hx hb hK hP hD hS 21 20 rfl rfl (rc_in ez_71 hkxI hby hr8 hd300).2.2 dX10_recipe_243 (fun H locs hP hD hS => ?_)
                      have hP : va_P (dC, dI) vwCl (mw g h0 b (va_up (va_up (va_up (va_up (va_up (va_up (va_up (va_up (va_up i 0 x0_21) 20 (0 : Int32)) 21 nn) 22 x22_26) 23 x23_27) 24 x24_28) 25 x25_29) 36 x36_30) 38 (0 : Int32)) (va_up (va_up (va_up (va_up (va_up (va_up (va_up (va_up a 26 f_58) 27 f_61) 28 f_64) 29 f_67) 30 f_70) 31 (upd l31 z_71.toNatClampNeg ((-1) : Int32))) 32 l32) 33 l33)) _ := hP
                      have hD : va_D _ (mw g h0 b (va_up (va_up (va_up (va_up (va_up (va_up (va_up (va_up (va_up i 0 x0_21) 20 (0 : Int32)) 21 nn) 22 x22_26) 23 x23_27) 24 x24_28) 25 x25_29) 36 x36_30) 38 (0 : Int32)) (va_up (va_up (va_up (va_up (va_up (va_up (va_up (va_up a 26 f_58) 27 f_61) 28 f_64) 29 f_67) 30 f_70) 31 (upd l31 z_71.toNatClampNeg ((-1) : Int32))) 32 l32) 33 l33)) := hD
                      obtain ⟨f_98, ef_98⟩ : ∃ z, z = (upd l31 z_71.toNatClampNeg ((-1) : Int32)) := ⟨_, rfl⟩
                      rw [← ef_98] at hP hD
                      refine lv_aload_n hx hb dX10_recipe_244 rfl (lv_at hl 3 rfl) ?_
                      refine va_get (D := (dC, dI)) (ci := 10) (v := .ref (b 32)) (C := RX10) (T := TX10) (N := 51) hx hb hts inw_X10_recipe_10 hown hK hP 0 rfl rfl 32 (by decide) (hts (.fieldLink RX10 78 "VatHouseModel" "other" "[I") (by decide +kernel)) (fun _ h9 => h9) rfl dX10_recipe_245 ?_
                      refine lv_iload hx hb dX10_recipe_248 (lv_at hl 0 rfl) ?_
                      refine lv_iload hx hb dX10_recipe_250 (lv_at hl 1 rfl) ?_
                      refine lv_iadd hx hb dX10_recipe_252 ?_
                      refine lv_topi (fun z_99 ez_99 => ?_)
                      refine lv_aload_n hx hb dX10_recipe_253 rfl (lv_at hl 3 rfl) ?_
                      refine va_get (D := (dC, dI)) (ci := 10) (v := .ref (b 32)) (C := RX10) (T := TX10) (N := 51) hx hb hts inw_X10_recipe_10 hown hK hP 0 rfl rfl 32 (by decide) (hts (.fieldLink RX10 78 "VatHouseModel" "other" "[I") (by decide +kernel)) (fun _ h9 => h9) rfl dX10_recipe_254 ?_
                      refine lv_iload hx hb dX10_recipe_257 (lv_at hl 0 rfl) ?_
                      refine va_iald hx hb hK hP 22 21 rfl rfl hkxv dX10_recipe_259 ?_
                      refine lv_topi (fun z_100 ez_100 => ?_)
                      have ez_100 : z_100 = l32 kx.toNatClampNeg := ez_100
                      refine lv_iconst (v := (-1)) hx hb dX10_recipe_260 (by decide) ?_
                      refine lv_icmp_ne (tgt := 268) hx hb dX10_recipe_261 (by decide) (fun c_101 => ?_) (fun c_101 => ?_)
                      · have nc_101 := ne_i c_101
                        have lc_101 : ((-1) : Int32).toInt = -1 := by decide
                        refine lv_aload_n hx hb dX10_recipe_268 rfl (lv_at hl 3 rfl) ?_
                        refine va_get (D := (dC, dI)) (ci := 10) (v := .ref (b 32)) (C := RX10) (T := TX10) (N := 51) hx hb hts inw_X10_recipe_10 hown hK hP 0 rfl rfl 32 (by decide) (hts (.fieldLink RX10 78 "VatHouseModel" "other" "[I") (by decide +kernel)) (fun _ h9 => h9) rfl dX10_recipe_269 ?_
                        refine lv_iload hx hb dX10_recipe_272 (lv_at hl 0 rfl) ?_
                        refine va_iald hx hb hK hP 22 21 rfl rfl hkxv dX10_recipe_274 ?_
                        refine lv_topi (fun z_102 ez_102 => ?_)
                        have ez_102 : z_102 = l32 kx.toNatClampNeg := ez_102
                        refine lv_iload hx hb dX10_recipe_275 (lv_at hl 1 rfl) ?_
                        refine lv_iadd hx hb dX10_recipe_277 ?_
                        refine lv_topi (fun z_103 ez_103 => ?_)
                        refine va_iast hx hb hK hP hD hS 22 21 rfl rfl (rc_in ez_99 hkxI hby hr8 hd300).2.2 dX10_recipe_278 (fun H locs hP hD hS => ?_)
                        have hP : va_P (dC, dI) vwCl (mw g h0 b (va_up (va_up (va_up (va_up (va_up (va_up (va_up (va_up (va_up i 0 x0_21) 20 (0 : Int32)) 21 nn) 22 x22_26) 23 x23_27) 24 x24_28) 25 x25_29) 36 x36_30) 38 (0 : Int32)) (va_up (va_up (va_up (va_up (va_up (va_up (va_up (va_up a 26 f_58) 27 f_61) 28 f_64) 29 f_67) 30 f_70) 31 f_98) 32 (upd l32 z_99.toNatClampNeg z_103)) 33 l33)) _ := hP
                        have hD : va_D _ (mw g h0 b (va_up (va_up (va_up (va_up (va_up (va_up (va_up (va_up (va_up i 0 x0_21) 20 (0 : Int32)) 21 nn) 22 x22_26) 23 x23_27) 24 x24_28) 25 x25_29) 36 x36_30) 38 (0 : Int32)) (va_up (va_up (va_up (va_up (va_up (va_up (va_up (va_up a 26 f_58) 27 f_61) 28 f_64) 29 f_67) 30 f_70) 31 f_98) 32 (upd l32 z_99.toNatClampNeg z_103)) 33 l33)) := hD
                        obtain ⟨f_104, ef_104⟩ : ∃ z, z = (upd l32 z_99.toNatClampNeg z_103) := ⟨_, rfl⟩
                        rw [← ef_104] at hP hD
                        refine lv_aload_n hx hb dX10_recipe_279 rfl (lv_at hl 3 rfl) ?_
                        refine va_get (D := (dC, dI)) (ci := 10) (v := .ref (b 33)) (C := RX10) (T := TX10) (N := 51) hx hb hts inw_X10_recipe_10 hown hK hP 0 rfl rfl 33 (by decide) (hts (.fieldLink RX10 81 "VatHouseModel" "next" "[I") (by decide +kernel)) (fun _ h9 => h9) rfl dX10_recipe_280 ?_
                        refine lv_iload hx hb dX10_recipe_283 (lv_at hl 0 rfl) ?_
                        refine lv_iload hx hb dX10_recipe_285 (lv_at hl 1 rfl) ?_
                        refine lv_iadd hx hb dX10_recipe_287 ?_
                        refine lv_topi (fun z_105 ez_105 => ?_)
                        refine lv_aload_n hx hb dX10_recipe_288 rfl (lv_at hl 3 rfl) ?_
                        refine va_get (D := (dC, dI)) (ci := 10) (v := .ref (b 33)) (C := RX10) (T := TX10) (N := 51) hx hb hts inw_X10_recipe_10 hown hK hP 0 rfl rfl 33 (by decide) (hts (.fieldLink RX10 81 "VatHouseModel" "next" "[I") (by decide +kernel)) (fun _ h9 => h9) rfl dX10_recipe_289 ?_
                        refine lv_iload hx hb dX10_recipe_292 (lv_at hl 0 rfl) ?_
                        refine va_iald hx hb hK hP 23 22 rfl rfl hkxv dX10_recipe_294 ?_
                        refine lv_topi (fun z_106 ez_106 => ?_)
                        have ez_106 : z_106 = l33 kx.toNatClampNeg := ez_106
                        refine lv_iconst (v := (-1)) hx hb dX10_recipe_295 (by decide) ?_
                        refine lv_icmp_ne (tgt := 303) hx hb dX10_recipe_296 (by decide) (fun c_107 => ?_) (fun c_107 => ?_)
                        · have nc_107 := ne_i c_107
                          have lc_107 : ((-1) : Int32).toInt = -1 := by decide
                          refine lv_aload_n hx hb dX10_recipe_303 rfl (lv_at hl 3 rfl) ?_
                          refine va_get (D := (dC, dI)) (ci := 10) (v := .ref (b 33)) (C := RX10) (T := TX10) (N := 51) hx hb hts inw_X10_recipe_10 hown hK hP 0 rfl rfl 33 (by decide) (hts (.fieldLink RX10 81 "VatHouseModel" "next" "[I") (by decide +kernel)) (fun _ h9 => h9) rfl dX10_recipe_304 ?_
                          refine lv_iload hx hb dX10_recipe_307 (lv_at hl 0 rfl) ?_
                          refine va_iald hx hb hK hP 23 22 rfl rfl hkxv dX10_recipe_309 ?_
                          refine lv_topi (fun z_108 ez_108 => ?_)
                          have ez_108 : z_108 = l33 kx.toNatClampNeg := ez_108
                          refine lv_iload hx hb dX10_recipe_310 (lv_at hl 1 rfl) ?_
                          refine lv_iadd hx hb dX10_recipe_312 ?_
                          refine lv_topi (fun z_109 ez_109 => ?_)
                          refine va_iast hx hb hK hP hD hS 23 22 rfl rfl (rc_in ez_105 hkxI hby hr8 hd300).2.2 dX10_recipe_313 (fun H locs hP hD hS => ?_)
                          have hP : va_P (dC, dI) vwCl (mw g h0 b (va_up (va_up (va_up (va_up (va_up (va_up (va_up (va_up (va_up i 0 x0_21) 20 (0 : Int32)) 21 nn) 22 x22_26) 23 x23_27) 24 x24_28) 25 x25_29) 36 x36_30) 38 (0 : Int32)) (va_up (va_up (va_up (va_up (va_up (va_up (va_up (va_up a 26 f_58) 27 f_61) 28 f_64) 29 f_67) 30 f_70) 31 f_98) 32 f_104) 33 (upd l33 z_105.toNatClampNeg z_109))) _ := hP
                          have hD : va_D _ (mw g h0 b (va_up (va_up (va_up (va_up (va_up (va_up (va_up (va_up (va_up i 0 x0_21) 20 (0 : Int32)) 21 nn) 22 x22_26) 23 x23_27) 24 x24_28) 25 x25_29) 36 x36_30) 38 (0 : Int32)) (va_up (va_up (va_up (va_up (va_up (va_up (va_up (va_up a 26 f_58) 27 f_61) 28 f_64) 29 f_67) 30 f_70) 31 f_98) 32 f_104) 33 (upd l33 z_105.toNatClampNeg z_109))) := hD
                          obtain ⟨f_110, ef_110⟩ : ∃ z, z = (upd l33 z_105.toNatClampNeg z_109) := ⟨_, rfl⟩
                          rw [← ef_110] at hP hD
                          refine lv_iinc (v := (kx + 1)) (lv' := [(5, .int (kx + 1)), (4, .int z_47), (3, .int z_40), (0, .ref h0), (1, .int rr), (2, .int nn)]) hx hb dX10_recipe_314 hl (k := 0) rfl rfl (by decide) rfl (fun ls hl => ?_)
                          refine lv_goto (tgt := 111) hx hb dX10_recipe_317 (by decide) ?_
                          exact ih (kx + 1) f_58 f_61 f_64 f_67 f_70 f_98 f_104 f_110 _ _ _ (rc_nx hm hkxI hd3) (⟨d + 1, by rw [hd1]; exact nI_1 (2400 + d), by omega, by rw [ef_58, ef_61, ef_98, ef_104, ef_110]; exact CP.step hcp hr8 (rc_in ez_56 hkxI hby hr8 hd300).2.1 (rc_in ez_59 hkxI hby hr8 hd300).2.1 (rc_in ez_71 hkxI hby hr8 hd300).2.1 (rc_in ez_99 hkxI hby hr8 hd300).2.1 (rc_in ez_105 hkxI hby hr8 hd300).2.1 (by rw [ez_57, hkxc]) (by rw [ez_60, hkxc]) (by rw [shf, if_pos (by rw [← hkxc, ← ez_72]; exact c_73)]) (by rw [shf, if_neg (by rw [← hkxc, ← ez_100]; exact c_101), ez_103, ez_102, hkxc]) (by rw [shf, if_neg (by rw [← hkxc, ← ez_106]; exact c_107), ez_109, ez_108, hkxc])⟩) hP hD hS (lv_sub hl [0, 1, 2, 3, 4, 5] rfl)
                        · have nc_107 := eq_i c_107
                          have lc_107 : ((-1) : Int32).toInt = -1 := by decide
                          refine lv_iconst (v := (-1)) hx hb dX10_recipe_299 (by decide) ?_
                          refine lv_goto (tgt := 313) hx hb dX10_recipe_300 (by decide) ?_
                          refine va_iast hx hb hK hP hD hS 23 22 rfl rfl (rc_in ez_105 hkxI hby hr8 hd300).2.2 dX10_recipe_313 (fun H locs hP hD hS => ?_)
                          have hP : va_P (dC, dI) vwCl (mw g h0 b (va_up (va_up (va_up (va_up (va_up (va_up (va_up (va_up (va_up i 0 x0_21) 20 (0 : Int32)) 21 nn) 22 x22_26) 23 x23_27) 24 x24_28) 25 x25_29) 36 x36_30) 38 (0 : Int32)) (va_up (va_up (va_up (va_up (va_up (va_up (va_up (va_up a 26 f_58) 27 f_61) 28 f_64) 29 f_67) 30 f_70) 31 f_98) 32 f_104) 33 (upd l33 z_105.toNatClampNeg ((-1) : Int32)))) _ := hP
                          have hD : va_D _ (mw g h0 b (va_up (va_up (va_up (va_up (va_up (va_up (va_up (va_up (va_up i 0 x0_21) 20 (0 : Int32)) 21 nn) 22 x22_26) 23 x23_27) 24 x24_28) 25 x25_29) 36 x36_30) 38 (0 : Int32)) (va_up (va_up (va_up (va_up (va_up (va_up (va_up (va_up a 26 f_58) 27 f_61) 28 f_64) 29 f_67) 30 f_70) 31 f_98) 32 f_104) 33 (upd l33 z_105.toNatClampNeg ((-1) : Int32)))) := hD
                          obtain ⟨f_111, ef_111⟩ : ∃ z, z = (upd l33 z_105.toNatClampNeg ((-1) : Int32)) := ⟨_, rfl⟩
                          rw [← ef_111] at hP hD
                          refine lv_iinc (v := (kx + 1)) (lv' := [(5, .int (kx + 1)), (4, .int z_47), (3, .int z_40), (0, .ref h0), (1, .int rr), (2, .int nn)]) hx hb dX10_recipe_314 hl (k := 0) rfl rfl (by decide) rfl (fun ls hl => ?_)
                          refine lv_goto (tgt := 111) hx hb dX10_recipe_317 (by decide) ?_
                          exact ih (kx + 1) f_58 f_61 f_64 f_67 f_70 f_98 f_104 f_111 _ _ _ (rc_nx hm hkxI hd3) (⟨d + 1, by rw [hd1]; exact nI_1 (2400 + d), by omega, by rw [ef_58, ef_61, ef_98, ef_104, ef_111]; exact CP.step hcp hr8 (rc_in ez_56 hkxI hby hr8 hd300).2.1 (rc_in ez_59 hkxI hby hr8 hd300).2.1 (rc_in ez_71 hkxI hby hr8 hd300).2.1 (rc_in ez_99 hkxI hby hr8 hd300).2.1 (rc_in ez_105 hkxI hby hr8 hd300).2.1 (by rw [ez_57, hkxc]) (by rw [ez_60, hkxc]) (by rw [shf, if_pos (by rw [← hkxc, ← ez_72]; exact c_73)]) (by rw [shf, if_neg (by rw [← hkxc, ← ez_100]; exact c_101), ez_103, ez_102, hkxc]) (by rw [shf, if_pos (by rw [← hkxc, ← ez_106]; exact c_107)])⟩) hP hD hS (lv_sub hl [0, 1, 2, 3, 4, 5] rfl)
                      · have nc_101 := eq_i c_101
                        have lc_101 : ((-1) : Int32).toInt = -1 := by decide
                        refine lv_iconst (v := (-1)) hx hb dX10_recipe_264 (by decide) ?_
                        refine lv_goto (tgt := 278) hx hb dX10_recipe_265 (by decide) ?_
                        refine va_iast hx hb hK hP hD hS 22 21 rfl rfl (rc_in ez_99 hkxI hby hr8 hd300).2.2 dX10_recipe_278 (fun H locs hP hD hS => ?_)
                        have hP : va_P (dC, dI) vwCl (mw g h0 b (va_up (va_up (va_up (va_up (va_up (va_up (va_up (va_up (va_up i 0 x0_21) 20 (0 : Int32)) 21 nn) 22 x22_26) 23 x23_27) 24 x24_28) 25 x25_29) 36 x36_30) 38 (0 : Int32)) (va_up (va_up (va_up (va_up (va_up (va_up (va_up (va_up a 26 f_58) 27 f_61) 28 f_64) 29 f_67) 30 f_70) 31 f_98) 32 (upd l32 z_99.toNatClampNeg ((-1) : Int32))) 33 l33)) _ := hP
                        have hD : va_D _ (mw g h0 b (va_up (va_up (va_up (va_up (va_up (va_up (va_up (va_up (va_up i 0 x0_21) 20 (0 : Int32)) 21 nn) 22 x22_26) 23 x23_27) 24 x24_28) 25 x25_29) 36 x36_30) 38 (0 : Int32)) (va_up (va_up (va_up (va_up (va_up (va_up (va_up (va_up a 26 f_58) 27 f_61) 28 f_64) 29 f_67) 30 f_70) 31 f_98) 32 (upd l32 z_99.toNatClampNeg ((-1) : Int32))) 33 l33)) := hD
                        obtain ⟨f_112, ef_112⟩ : ∃ z, z = (upd l32 z_99.toNatClampNeg ((-1) : Int32)) := ⟨_, rfl⟩
                        rw [← ef_112] at hP hD
                        refine lv_aload_n hx hb dX10_recipe_279 rfl (lv_at hl 3 rfl) ?_
                        refine va_get (D := (dC, dI)) (ci := 10) (v := .ref (b 33)) (C := RX10) (T := TX10) (N := 51) hx hb hts inw_X10_recipe_10 hown hK hP 0 rfl rfl 33 (by decide) (hts (.fieldLink RX10 81 "VatHouseModel" "next" "[I") (by decide +kernel)) (fun _ h9 => h9) rfl dX10_recipe_280 ?_
                        refine lv_iload hx hb dX10_recipe_283 (lv_at hl 0 rfl) ?_
                        refine lv_iload hx hb dX10_recipe_285 (lv_at hl 1 rfl) ?_
                        refine lv_iadd hx hb dX10_recipe_287 ?_
                        refine lv_topi (fun z_113 ez_113 => ?_)
                        refine lv_aload_n hx hb dX10_recipe_288 rfl (lv_at hl 3 rfl) ?_
                        refine va_get (D := (dC, dI)) (ci := 10) (v := .ref (b 33)) (C := RX10) (T := TX10) (N := 51) hx hb hts inw_X10_recipe_10 hown hK hP 0 rfl rfl 33 (by decide) (hts (.fieldLink RX10 81 "VatHouseModel" "next" "[I") (by decide +kernel)) (fun _ h9 => h9) rfl dX10_recipe_289 ?_
                        refine lv_iload hx hb dX10_recipe_292 (lv_at hl 0 rfl) ?_
                        refine va_iald hx hb hK hP 23 22 rfl rfl hkxv dX10_recipe_294 ?_
                        refine lv_topi (fun z_114 ez_114 => ?_)
                        have ez_114 : z_114 = l33 kx.toNatClampNeg := ez_114
                        refine lv_iconst (v := (-1)) hx hb dX10_recipe_295 (by decide) ?_
                        refine lv_icmp_ne (tgt := 303) hx hb dX10_recipe_296 (by decide) (fun c_115 => ?_) (fun c_115 => ?_)
                        · have nc_115 := ne_i c_115
                          have lc_115 : ((-1) : Int32).toInt = -1 := by decide
                          refine lv_aload_n hx hb dX10_recipe_303 rfl (lv_at hl 3 rfl) ?_
                          refine va_get (D := (dC, dI)) (ci := 10) (v := .ref (b 33)) (C := RX10) (T := TX10) (N := 51) hx hb hts inw_X10_recipe_10 hown hK hP 0 rfl rfl 33 (by decide) (hts (.fieldLink RX10 81 "VatHouseModel" "next" "[I") (by decide +kernel)) (fun _ h9 => h9) rfl dX10_recipe_304 ?_
                          refine lv_iload hx hb dX10_recipe_307 (lv_at hl 0 rfl) ?_
                          refine va_iald hx hb hK hP 23 22 rfl rfl hkxv dX10_recipe_309 ?_
                          refine lv_topi (fun z_116 ez_116 => ?_)
                          have ez_116 : z_116 = l33 kx.toNatClampNeg := ez_116
                          refine lv_iload hx hb dX10_recipe_310 (lv_at hl 1 rfl) ?_
                          refine lv_iadd hx hb dX10_recipe_312 ?_
                          refine lv_topi (fun z_117 ez_117 => ?_)
                          refine va_iast hx hb hK hP hD hS 23 22 rfl rfl (rc_in ez_113 hkxI hby hr8 hd300).2.2 dX10_recipe_313 (fun H locs hP hD hS => ?_)
                          have hP : va_P (dC, dI) vwCl (mw g h0 b (va_up (va_up (va_up (va_up (va_up (va_up (va_up (va_up (va_up i 0 x0_21) 20 (0 : Int32)) 21 nn) 22 x22_26) 23 x23_27) 24 x24_28) 25 x25_29) 36 x36_30) 38 (0 : Int32)) (va_up (va_up (va_up (va_up (va_up (va_up (va_up (va_up a 26 f_58) 27 f_61) 28 f_64) 29 f_67) 30 f_70) 31 f_98) 32 f_112) 33 (upd l33 z_113.toNatClampNeg z_117))) _ := hP
                          have hD : va_D _ (mw g h0 b (va_up (va_up (va_up (va_up (va_up (va_up (va_up (va_up (va_up i 0 x0_21) 20 (0 : Int32)) 21 nn) 22 x22_26) 23 x23_27) 24 x24_28) 25 x25_29) 36 x36_30) 38 (0 : Int32)) (va_up (va_up (va_up (va_up (va_up (va_up (va_up (va_up a 26 f_58) 27 f_61) 28 f_64) 29 f_67) 30 f_70) 31 f_98) 32 f_112) 33 (upd l33 z_113.toNatClampNeg z_117))) := hD
                          obtain ⟨f_118, ef_118⟩ : ∃ z, z = (upd l33 z_113.toNatClampNeg z_117) := ⟨_, rfl⟩
                          rw [← ef_118] at hP hD
                          refine lv_iinc (v := (kx + 1)) (lv' := [(5, .int (kx + 1)), (4, .int z_47), (3, .int z_40), (0, .ref h0), (1, .int rr), (2, .int nn)]) hx hb dX10_recipe_314 hl (k := 0) rfl rfl (by decide) rfl (fun ls hl => ?_)
                          refine lv_goto (tgt := 111) hx hb dX10_recipe_317 (by decide) ?_
                          exact ih (kx + 1) f_58 f_61 f_64 f_67 f_70 f_98 f_112 f_118 _ _ _ (rc_nx hm hkxI hd3) (⟨d + 1, by rw [hd1]; exact nI_1 (2400 + d), by omega, by rw [ef_58, ef_61, ef_98, ef_112, ef_118]; exact CP.step hcp hr8 (rc_in ez_56 hkxI hby hr8 hd300).2.1 (rc_in ez_59 hkxI hby hr8 hd300).2.1 (rc_in ez_71 hkxI hby hr8 hd300).2.1 (rc_in ez_99 hkxI hby hr8 hd300).2.1 (rc_in ez_113 hkxI hby hr8 hd300).2.1 (by rw [ez_57, hkxc]) (by rw [ez_60, hkxc]) (by rw [shf, if_pos (by rw [← hkxc, ← ez_72]; exact c_73)]) (by rw [shf, if_pos (by rw [← hkxc, ← ez_100]; exact c_101)]) (by rw [shf, if_neg (by rw [← hkxc, ← ez_114]; exact c_115), ez_117, ez_116, hkxc])⟩) hP hD hS (lv_sub hl [0, 1, 2, 3, 4, 5] rfl)
                        · have nc_115 := eq_i c_115
                          have lc_115 : ((-1) : Int32).toInt = -1 := by decide
                          refine lv_iconst (v := (-1)) hx hb dX10_recipe_299 (by decide) ?_
                          refine lv_goto (tgt := 313) hx hb dX10_recipe_300 (by decide) ?_
                          refine va_iast hx hb hK hP hD hS 23 22 rfl rfl (rc_in ez_113 hkxI hby hr8 hd300).2.2 dX10_recipe_313 (fun H locs hP hD hS => ?_)
                          have hP : va_P (dC, dI) vwCl (mw g h0 b (va_up (va_up (va_up (va_up (va_up (va_up (va_up (va_up (va_up i 0 x0_21) 20 (0 : Int32)) 21 nn) 22 x22_26) 23 x23_27) 24 x24_28) 25 x25_29) 36 x36_30) 38 (0 : Int32)) (va_up (va_up (va_up (va_up (va_up (va_up (va_up (va_up a 26 f_58) 27 f_61) 28 f_64) 29 f_67) 30 f_70) 31 f_98) 32 f_112) 33 (upd l33 z_113.toNatClampNeg ((-1) : Int32)))) _ := hP
                          have hD : va_D _ (mw g h0 b (va_up (va_up (va_up (va_up (va_up (va_up (va_up (va_up (va_up i 0 x0_21) 20 (0 : Int32)) 21 nn) 22 x22_26) 23 x23_27) 24 x24_28) 25 x25_29) 36 x36_30) 38 (0 : Int32)) (va_up (va_up (va_up (va_up (va_up (va_up (va_up (va_up a 26 f_58) 27 f_61) 28 f_64) 29 f_67) 30 f_70) 31 f_98) 32 f_112) 33 (upd l33 z_113.toNatClampNeg ((-1) : Int32)))) := hD
                          obtain ⟨f_119, ef_119⟩ : ∃ z, z = (upd l33 z_113.toNatClampNeg ((-1) : Int32)) := ⟨_, rfl⟩
                          rw [← ef_119] at hP hD
                          refine lv_iinc (v := (kx + 1)) (lv' := [(5, .int (kx + 1)), (4, .int z_47), (3, .int z_40), (0, .ref h0), (1, .int rr), (2, .int nn)]) hx hb dX10_recipe_314 hl (k := 0) rfl rfl (by decide) rfl (fun ls hl => ?_)
                          refine lv_goto (tgt := 111) hx hb dX10_recipe_317 (by decide) ?_
                          exact ih (kx + 1) f_58 f_61 f_64 f_67 f_70 f_98 f_112 f_119 _ _ _ (rc_nx hm hkxI hd3) (⟨d + 1, by rw [hd1]; exact nI_1 (2400 + d), by omega, by rw [ef_58, ef_61, ef_98, ef_112, ef_119]; exact CP.step hcp hr8 (rc_in ez_56 hkxI hby hr8 hd300).2.1 (rc_in ez_59 hkxI hby hr8 hd300).2.1 (rc_in ez_71 hkxI hby hr8 hd300).2.1 (rc_in ez_99 hkxI hby hr8 hd300).2.1 (rc_in ez_113 hkxI hby hr8 hd300).2.1 (by rw [ez_57, hkxc]) (by rw [ez_60, hkxc]) (by rw [shf, if_pos (by rw [← hkxc, ← ez_72]; exact c_73)]) (by rw [shf, if_pos (by rw [← hkxc, ← ez_100]; exact c_101)]) (by rw [shf, if_pos (by rw [← hkxc, ← ez_114]; exact c_115)])⟩) hP hD hS (lv_sub hl [0, 1, 2, 3, 4, 5] rfl)
              exact lp ((2400 + x36_30.toInt - (2400 : Int32).toInt).toNat + 1) (2400 : Int32) y26_31 y27_32 y28_33 y29_34 y30_35 y31_36 y32_37 y33_38 _ _ _ (by omega) (⟨0, by decide, by omega, CP.z⟩) hP hD hS (lv_sub hl [0, 1, 2, 3, 4, 5] rfl)
            · have nc_45 := nle_i c_45
              have lc_45 : (0 : Int32).toInt = 0 := by decide
              refine lv_aload_n hx hb dX10_recipe_90 rfl (lv_at hl 1 rfl) ?_
              refine va_get (D := (dC, dI)) (ci := 10) (v := .int x23_27) (C := RX10) (T := TX10) (N := 51) hx hb hts inw_X10_recipe_10 hown hK hP 0 rfl rfl 23 (by decide) (hts (.fieldLink RX10 165 "VatHouseModel" "faultKind" "I") (by decide +kernel)) (fun _ h9 => h9) rfl dX10_recipe_91 ?_
              exact M_i hx hb hr hlocks (x0_21, (0 : Int32), nn, x22_26, x23_27, x24_28, x25_29, x36_30, (i 37), (0 : Int32), y26_31, y27_32, y28_33, y29_34, y30_35, y31_36, y32_37, y33_38, (a 34), (a 35)) hP hD hK hS ⟨⟨_, rfl⟩, ⟨by decide, BI.lf hBI hPR_41.2.2.1⟩⟩ (Nat.le_of_ble_eq_true rfl) (Nat.le_of_ble_eq_true rfl) dX10_recipe_94
