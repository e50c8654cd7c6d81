/-! the banks of the recipes -/
def shf (b x : Int32) : Int32 := if x = -1 then -1 else x + b
def CP (r d : Nat) (b : Int32) (kd on inr oth nx kd' on' inr' oth' nx' : Nat → Int32) : Prop :=
  (∀ k : Nat, k < 300 * r ∨ 300 * r + d ≤ k → kd' k = kd k ∧ on' k = on k ∧ inr' k = inr k ∧ oth' k = oth k ∧ nx' k = nx k) ∧
  ∀ m : Nat, m < d → kd' (300 * r + m) = kd (2400 + m) ∧ on' (300 * r + m) = on (2400 + m) ∧ inr' (300 * r + m) = shf b (inr (2400 + m)) ∧ oth' (300 * r + m) = shf b (oth (2400 + m)) ∧ nx' (300 * r + m) = shf b (nx (2400 + m))
def BV (r : Nat) (mn : Nat → Int32) (k : Nat) : Prop := 300 * r ≤ k ∧ (k : Int) < 300 * r + (mn r).toInt
def BI (kd on inr oth nx fi mn : Nat → Int32) : Prop := ∀ r : Nat, r < 8 → 0 ≤ (mn r).toInt ∧ (mn r).toInt ≤ 300 ∧ ∃ dp : Nat → Nat, ND (BV r mn) dp kd on inr oth nx ∧ (fi r = -2 ∨ lk (BV r mn) dp 0 (fi r))
section CPS
variable {r d : Nat} {b : Int32} {kd on inr oth nx kd' on' inr' oth' nx' : Nat → Int32}
theorem CP.z : CP r 0 b kd on inr oth nx kd on inr oth nx := ⟨fun _ _ => ⟨rfl, rfl, rfl, rfl, rfl⟩, fun m h => absurd h (by omega)⟩
theorem CP.step (h : CP r d b kd on inr oth nx kd' on' inr' oth' nx') (hr : r < 8) {x1 x2 x3 x4 x5 : Nat} (e1 : x1 = 300 * r + d) (e2 : x2 = 300 * r + d) (e3 : x3 = 300 * r + d) (e4 : x4 = 300 * r + d) (e5 : x5 = 300 * r + d) {v1 v2 v3 v4 v5 : Int32} (h1 : v1 = kd' (2400 + d)) (h2 : v2 = on' (2400 + d)) (h3 : v3 = shf b (inr' (2400 + d))) (h4 : v4 = shf b (oth' (2400 + d))) (h5 : v5 = shf b (nx' (2400 + d))) :
    CP r (d + 1) b kd on inr oth nx (upd kd' x1 v1) (upd on' x2 v2) (upd inr' x3 v3) (upd oth' x4 v4) (upd nx' x5 v5) := by
  subst e1; subst e2; subst e3; subst e4; subst e5
  obtain ⟨g1, g2, g3, g4, g5⟩ := h.1 (2400 + d) (Or.inr (by omega))
  refine ⟨fun k hk => ?_, fun m hm => ?_⟩
  · have hne : k ≠ 300 * r + d := by omega
    simp only [upd, hne, if_false]
    exact h.1 k (by omega)
  · by_cases e : m = d
    · subst e
      simp only [upd, if_true]
      exact ⟨h1.trans g1, h2.trans g2, by rw [h3, g3], by rw [h4, g4], by rw [h5, g5]⟩
    · have hne : 300 * r + m ≠ 300 * r + d := by omega
      simp only [upd, hne, if_false]
      exact h.2 m (by omega)
theorem ND.same {V : Nat → Prop} {dp : Nat → Nat} (h : ND V dp kd on inr oth nx) (he : ∀ k : Nat, V k → kd' k = kd k ∧ on' k = on k ∧ inr' k = inr k ∧ oth' k = oth k ∧ nx' k = nx k) : ND V dp kd' on' inr' oth' nx' := fun k hk => by
  obtain ⟨g1, g2, g3, g4, g5⟩ := he k hk
  rw [g1, g2, g3, g4, g5]
  exact h k hk
theorem BI.lf {fi mn : Nat → Int32} (h : BI kd on inr oth nx fi mn) (hL : LF kd on inr oth nx kd' on' inr' oth' nx') : BI kd' on' inr' oth' nx' fi mn := fun r hr => by
  obtain ⟨h1, h2, dp, h3, h4⟩ := h r hr
  exact ⟨h1, h2, dp, h3.same (fun k hk => hL k (by have := hk.2; omega)), h4⟩
theorem PN_zero {dp : Nat → Nat} : PN 0 dp kd on inr oth nx := ⟨by decide, by decide, fun k hk => by
  have h1 := hk.1
  have h2 := hk.2
  have : (0 : Int32).toInt = 0 := by decide
  omega⟩
end CPS
theorem BI.put {r : Nat} (hr : r < 8) {rr b N z0 v : Int32} {dp : Nat → Nat} {a1 a2 a3 a4 a5 c1 c2 c3 c4 c5 l1 l2 l3 l4 l5 fi mn : Nat → Int32} (hB : BI a1 a2 a3 a4 a5 fi mn) (hL : LF a1 a2 a3 a4 a5 c1 c2 c3 c4 c5) (hN : PN N dp c1 c2 c3 c4 c5) (hC : CP r N.toInt.toNat b c1 c2 c3 c4 c5 l1 l2 l3 l4 l5) (hb : b.toInt = 300 * (r : Int) - 2400) (hk : lk (PV N) dp 0 z0) (hv : v = if z0 = -1 then -2 else z0 + b) (hrr : rr.toNatClampNeg = r) : BI l1 l2 l3 l4 l5 (upd fi rr.toNatClampNeg v) (upd mn rr.toNatClampNeg N) := by
  subst hrr
  obtain ⟨hN1, hN2, hN3⟩ := hN
  intro r2 hr2
  by_cases e : r2 = rr.toNatClampNeg
  · subst e
    have em : upd mn rr.toNatClampNeg N rr.toNatClampNeg = N := if_pos rfl
    have ef : upd fi rr.toNatClampNeg v rr.toNatClampNeg = v := if_pos rfl
    have hlink : ∀ (dd : Nat) (x : Int32), lk (PV N) dp dd x → lk (BV rr.toNatClampNeg (upd mn rr.toNatClampNeg N)) (fun k => dp (k + 2400 - 300 * rr.toNatClampNeg)) dd (shf b x) := by
      intro dd x hx
      rcases hx with hx | ⟨q, g1, g2, g3⟩
      · left
        rw [shf, if_pos hx]
      · right
        have q1 := g2.1
        have q2 := g2.2
        have hxi : x.toInt = (q : Int) := by rw [g1]; exact nI_toInt (by omega)
        have hne : ¬ x = -1 := fun h => by
          rw [h] at hxi
          have : (-1 : Int32).toInt = -1 := by decide
          omega
        refine ⟨q + 300 * rr.toNatClampNeg - 2400, ?_, ⟨by omega, by rw [em]; omega⟩, ?_⟩
        · rw [shf, if_neg hne]
          apply Int32.toInt_inj.mp
          rw [add_i (z := x + b) rfl (by omega) (by omega), nI_toInt (by omega), hxi, hb]
          omega
        · show dp (q + 300 * rr.toNatClampNeg - 2400 + 2400 - 300 * rr.toNatClampNeg) = dd
          rw [show q + 300 * rr.toNatClampNeg - 2400 + 2400 - 300 * rr.toNatClampNeg = q by omega]
          exact g3
    refine ⟨by rw [em]; exact hN1, by rw [em]; exact hN2, fun k => dp (k + 2400 - 300 * rr.toNatClampNeg), fun k hk2 => ?_, ?_⟩
    · have k1 := hk2.1
      have k2 := hk2.2
      rw [em] at k2
      obtain ⟨m, hm⟩ : ∃ m, k = 300 * rr.toNatClampNeg + m := ⟨k - 300 * rr.toNatClampNeg, by omega⟩
      subst hm
      have hmN : m < N.toInt.toNat := by omega
      obtain ⟨g1, g2, g3, g4, g5⟩ := hC.2 m hmN
      obtain ⟨n1, n2, n3, n4, n5, n6⟩ := hN3 (2400 + m) ⟨by omega, by omega⟩
      have ed : 300 * rr.toNatClampNeg + m + 2400 - 300 * rr.toNatClampNeg = 2400 + m := by omega
      rw [g1, g2, g3, g4, g5]
      show _ ∧ dp (300 * rr.toNatClampNeg + m + 2400 - 300 * rr.toNatClampNeg) ≤ 8 ∧ _ ∧ lk _ _ (dp (300 * rr.toNatClampNeg + m + 2400 - 300 * rr.toNatClampNeg) + 1) _ ∧ lk _ _ (dp (300 * rr.toNatClampNeg + m + 2400 - 300 * rr.toNatClampNeg) + 1) _ ∧ lk _ _ (dp (300 * rr.toNatClampNeg + m + 2400 - 300 * rr.toNatClampNeg)) _
      rw [ed]
      exact ⟨by omega, n2, n3, hlink _ _ n4, hlink _ _ n5, hlink _ _ n6⟩
    · rw [ef, hv]
      by_cases h1 : z0 = -1
      · left; rw [if_pos h1]
      · right
        have h2 := hlink 0 z0 hk
        rw [shf, if_neg h1] at h2
        rw [if_neg h1]
        exact h2
  · have em : upd mn rr.toNatClampNeg N r2 = mn r2 := if_neg e
    have ef : upd fi rr.toNatClampNeg v r2 = fi r2 := if_neg e
    have eV : BV r2 (upd mn rr.toNatClampNeg N) = BV r2 mn := by
      funext k
      show (300 * r2 ≤ k ∧ (k : Int) < 300 * r2 + (upd mn rr.toNatClampNeg N r2).toInt) = _
      rw [em]
      rfl
    obtain ⟨h1, h2, dp2, h3, h4⟩ := hB r2 hr2
    rw [em, ef, eV]
    refine ⟨h1, h2, dp2, h3.same (fun k hk2 => ?_), h4⟩
    have k1 := hk2.1
    have k2 := hk2.2
    have hout : k < 300 * rr.toNatClampNeg ∨ 300 * rr.toNatClampNeg + N.toInt.toNat ≤ k := by omega
    obtain ⟨g1, g2, g3, g4, g5⟩ := hC.1 k hout
    obtain ⟨f1, f2, f3, f4, f5⟩ := hL k (by omega)
    exact ⟨g1.trans f1, g2.trans f2, g3.trans f3, g4.trans f4, g5.trans f5⟩

theorem rc_nx {kx N : Int32} {n d : Nat} (hm : (2400 + N.toInt - kx.toInt).toNat < n + 1) (h : kx.toInt = 2400 + (d : Int)) (h2 : (d : Int) < N.toInt) (h3 : N.toInt ≤ 300 := by omega) : (2400 + N.toInt - (kx + 1).toInt).toNat < n := by
  have h5 := add_i (z := kx + 1) rfl (by have : (1 : Int32).toInt = 1 := by decide
                                         omega) (by have : (1 : Int32).toInt = 1 := by decide
                                                    omega)
  have : (1 : Int32).toInt = 1 := by decide
  omega
theorem rc_in {z kx b : Int32} {r d : Nat} (ez : z = kx + b) (h1 : kx.toInt = 2400 + (d : Int)) (h2 : b.toInt = 300 * (r : Int) - 2400) (hr : r < 8) (hd : d < 300) : z.toInt = 300 * (r : Int) + d ∧ z.toNatClampNeg = 300 * r + d ∧ vp_in z 2700 := by
  have h3 := add_i ez (by omega) (by omega)
  have h4 : z.toInt = 300 * (r : Int) + d := by omega
  have h5 := clamp_i (x := z) (by omega)
  exact ⟨h4, by omega, in_i (by omega) (by omega)⟩
theorem rc_ix {x : Int32} {q : Nat} (h0 : 0 ≤ x.toInt) (h : x.toInt = (q : Int)) : x.toNatClampNeg = q := by
  have h9 := clamp_i h0
  omega

abbrev rm_X10_rightX : Room := { frames := 0, cells := 0, slots := 0, locals := 0 }
set_option maxHeartbeats 1000000 in
set_option maxRecDepth 100000 in
theorem m_X10_rightX (l : Launch) (dC : Nat → ClassId) (dI : Nat → Nat → Nat) (sa : Nat → Nat) (g : Nat → Nat) (h0 : Nat) (b : Nat → Nat) (i : Nat → Int32) (a : Nat → Nat → Int32) (iz : Int32) (wh : Int32) (sz : Nat) (hwh : ¬ wh = 0) (h00 : (i 0) = 0) : CT l dC dI sa yX10_right wsX10_right rm_X10_rightX [.ref h0, .int iz, .int wh] (mw g h0 b i a) (tyM g) sz (fun (r : Option Value) (x0 : Int32) => ((r = some (.int 0) ∧ (iz = 0 ∧ x0 = wh)) ∨ (r = some (.int 1) ∧ (¬ iz = 0 ∧ x0 = 0))) ∧ (True)) (fun (x0 : Int32) => mw g h0 b (va_up i 0 x0) a) (fun _ => []) 0 0 := by
  refine CT.start (cc := cX10_right) (maxL := 3) (ret := (some .boolean)) (by decide) rfl (Nat.le_of_ble_eq_true rfl) ?_
  intro p e s m below meth c ls hst hP hK hD hev hS hl
  obtain ⟨hx, hb, hr, hml, hts, hown, hlocks, hin⟩ := hst
  have hown : s.vm.findClass RX10 = some m.cls := hown
  have hA : ∀ q : Nat, s.heap.size ≤ q → va_A (mw g h0 b i a) s.heap.size q := fun _ h => Or.inr h
  have hl : lv_has ls 3 [(0, .ref h0), (1, .int iz), (2, .int wh)] := hl
  refine lv_aload_n hx hb dX10_right_0 rfl (lv_at hl 0 rfl) ?_
  refine va_get (D := (dC, dI)) (ci := 10) (v := .int (i 0)) (C := RX10) (T := TX10) (N := 51) hx hb hts inw_X10_right_10 hown hK hP 0 rfl rfl 0 (by decide) (hts (.fieldLink RX10 105 "VatHouseModel" "thrown" "I") (by decide +kernel)) (fun _ h9 => h9) rfl dX10_right_1 ?_
  refine lv_if_ne (tgt := 16) hx hb dX10_right_4 (by decide) (fun c_1 => ?_) (fun c_1 => ?_)
  · have nc_1 := ne_i c_1
    have lc_1 : (0 : Int32).toInt = 0 := by decide
    refine lv_aload_n hx hb dX10_right_16 rfl (lv_at hl 0 rfl) ?_
    refine va_get (D := (dC, dI)) (ci := 10) (v := .int (i 0)) (C := RX10) (T := TX10) (N := 51) hx hb hts inw_X10_right_10 hown hK hP 0 rfl rfl 0 (by decide) (hts (.fieldLink RX10 105 "VatHouseModel" "thrown" "I") (by decide +kernel)) (fun _ h9 => h9) rfl dX10_right_17 ?_
    refine lv_if_ne (tgt := 27) hx hb dX10_right_20 (by decide) (fun c_2 => ?_) (fun c_2 => ?_)
    · have nc_2 := ne_i c_2
      have lc_2 : (0 : Int32).toInt = 0 := by decide
      refine lv_iconst (v := 0) hx hb dX10_right_27 (by decide) ?_
      exact M_z hx hb hr rfl hlocks ((i 0)) hP hD hK hS ⟨Or.inl ⟨rfl, (absurd h00 c_1)⟩, trivial⟩ (Nat.le_of_ble_eq_true rfl) (Nat.le_of_ble_eq_true rfl) dX10_right_28
    · have nc_2 := eq_i c_2
      have lc_2 : (0 : Int32).toInt = 0 := by decide
      refine lv_iconst (v := 1) hx hb dX10_right_23 (by decide) ?_
      refine lv_goto (tgt := 28) hx hb dX10_right_24 (by decide) ?_
      exact M_z hx hb hr rfl hlocks ((i 0)) hP hD hK hS ⟨Or.inr ⟨rfl, (absurd h00 c_1)⟩, trivial⟩ (Nat.le_of_ble_eq_true rfl) (Nat.le_of_ble_eq_true rfl) dX10_right_28
  · have nc_1 := eq_i c_1
    have lc_1 : (0 : Int32).toInt = 0 := by decide
    refine lv_iload_n hx hb dX10_right_7 rfl (lv_at hl 1 rfl) ?_
    refine lv_if_ne (tgt := 16) hx hb dX10_right_8 (by decide) (fun c_3 => ?_) (fun c_3 => ?_)
    · have nc_3 := ne_i c_3
      have lc_3 : (0 : Int32).toInt = 0 := by decide
      refine lv_aload_n hx hb dX10_right_16 rfl (lv_at hl 0 rfl) ?_
      refine va_get (D := (dC, dI)) (ci := 10) (v := .int (i 0)) (C := RX10) (T := TX10) (N := 51) hx hb hts inw_X10_right_10 hown hK hP 0 rfl rfl 0 (by decide) (hts (.fieldLink RX10 105 "VatHouseModel" "thrown" "I") (by decide +kernel)) (fun _ h9 => h9) rfl dX10_right_17 ?_
      refine lv_if_ne (tgt := 27) hx hb dX10_right_20 (by decide) (fun c_4 => ?_) (fun c_4 => ?_)
      · have nc_4 := ne_i c_4
        have lc_4 : (0 : Int32).toInt = 0 := by decide
        refine lv_iconst (v := 0) hx hb dX10_right_27 (by decide) ?_
        exact M_z hx hb hr rfl hlocks ((i 0)) hP hD hK hS ⟨Or.inl ⟨rfl, (absurd h00 c_4)⟩, trivial⟩ (Nat.le_of_ble_eq_true rfl) (Nat.le_of_ble_eq_true rfl) dX10_right_28
      · have nc_4 := eq_i c_4
        have lc_4 : (0 : Int32).toInt = 0 := by decide
        refine lv_iconst (v := 1) hx hb dX10_right_23 (by decide) ?_
        refine lv_goto (tgt := 28) hx hb dX10_right_24 (by decide) ?_
        exact M_z hx hb hr rfl hlocks ((i 0)) hP hD hK hS ⟨Or.inr ⟨rfl, ⟨c_3, h00⟩⟩, trivial⟩ (Nat.le_of_ble_eq_true rfl) (Nat.le_of_ble_eq_true rfl) dX10_right_28
    · have nc_3 := eq_i c_3
      have lc_3 : (0 : Int32).toInt = 0 := by decide
      refine lv_aload_n hx hb dX10_right_11 rfl (lv_at hl 0 rfl) ?_
      refine lv_iload_n hx hb dX10_right_12 rfl (lv_at hl 2 rfl) ?_
      refine va_put (D := (dC, dI)) (ci := 10) (v := .int wh) (ty := .int) (C := RX10) (T := TX10) (N := 51) hx hb hts inw_X10_right_10 tyX10 tyX10_ok nmX10 hown hK hP hD hS 0 rfl rfl 0 (by decide) (hts (.fieldLink RX10 105 "VatHouseModel" "thrown" "I") (by decide +kernel)) (fun _ h9 => h9) rfl (by decide +kernel) rfl rfl (Nat.le_of_ble_eq_true rfl) dX10_right_13 (fun H locs hP hD hS => ?_)
      have hP : va_P (dC, dI) vwCl (mw g h0 b (va_up i 0 wh) a) _ := hP
      have hD : va_D _ (mw g h0 b (va_up i 0 wh) a) := hD
      refine lv_aload_n hx hb dX10_right_16 rfl (lv_at hl 0 rfl) ?_
      refine va_get (D := (dC, dI)) (ci := 10) (v := .int wh) (C := RX10) (T := TX10) (N := 51) hx hb hts inw_X10_right_10 hown hK hP 0 rfl rfl 0 (by decide) (hts (.fieldLink RX10 105 "VatHouseModel" "thrown" "I") (by decide +kernel)) (fun _ h9 => h9) rfl dX10_right_17 ?_
      refine lv_if_ne (tgt := 27) hx hb dX10_right_20 (by decide) (fun c_5 => ?_) (fun c_5 => ?_)
      · have nc_5 := ne_i c_5
        have lc_5 : (0 : Int32).toInt = 0 := by decide
        refine lv_iconst (v := 0) hx hb dX10_right_27 (by decide) ?_
        exact M_z hx hb hr rfl hlocks (wh) hP hD hK hS ⟨Or.inl ⟨rfl, ⟨c_3, rfl⟩⟩, trivial⟩ (Nat.le_of_ble_eq_true rfl) (Nat.le_of_ble_eq_true rfl) dX10_right_28
      · have nc_5 := eq_i c_5
        have lc_5 : (0 : Int32).toInt = 0 := by decide
        refine lv_iconst (v := 1) hx hb dX10_right_23 (by decide) ?_
        refine lv_goto (tgt := 28) hx hb dX10_right_24 (by decide) ?_
        exact M_z hx hb hr rfl hlocks (wh) hP hD hK hS ⟨Or.inr ⟨rfl, (absurd c_5 hwh)⟩, trivial⟩ (Nat.le_of_ble_eq_true rfl) (Nat.le_of_ble_eq_true rfl) dX10_right_28

theorem rc_end {tt : Nat → Int32} {ln d : Nat} {q : SG} {P Q : Prop} {x22 x23 x24 x36 : Int32} (h : (P ∧ ∃ rn : SG, ST (Kp tt ln) (Vp tt ln) (nq tt ln) d (if (0 : Int32) = 0 then (0 : Int32) else 125) q rn ∧ MO rn x23 x24) ∨ (Q ∧ ∃ rn : SG, ST (Kp tt ln) (Vp tt ln) (nq tt ln) d (if (0 : Int32) = 0 then (0 : Int32) else 125) q rn ∧ MI tt ln rn x22 x23 x24 ∧ x36 = nI rn.2.1)) : ∃ (rn r1 : SG), Ev (Kp tt ln) (Vp tt ln) (nq tt ln) 0 d q r1 ∧ rn = gpa (Kp tt ln) (nq tt ln) 0 r1 ∧ x23 = rn.2.2.1 ∧ x24 = rn.2.2.2 := by
  rw [if_pos rfl] at h
  rcases h with ⟨-, rn, ⟨r1, h1, h2⟩, h3⟩ | ⟨-, rn, ⟨r1, h1, h2⟩, h3, -⟩
  · exact ⟨rn, r1, h1, h2, h3.1, h3.2.1⟩
  · exact ⟨rn, r1, h1, h2, h3.1.trans h3.2.1.symm, h3.2.2.1⟩

theorem rc_z {tt : Nat → Int32} {ln : Nat} {P Q : Prop} {A B : SG → Prop} {x22 x23 x24 x36 : Int32} (h : (P ∧ ∃ rn : SG, A rn ∧ MO rn x23 x24) ∨ (Q ∧ ∃ rn : SG, B rn ∧ MI tt ln rn x22 x23 x24 ∧ x36 = nI rn.2.1)) (h0 : x23.toInt ≤ 0) : x23 = 0 := by
  rcases h with ⟨-, rn, -, h3⟩ | ⟨-, rn, -, h3, -⟩
  · have := h3.2.2.2; omega
  · exact h3.1

abbrev rm_X10_recipeX : Room := { frames := 96, cells := 0, slots := 0, locals := 2744 }
theorem inw_X10_recipe_10 : ∀ w ∈ wsX100, w ∈ wsX10_recipe := by decide +kernel
set_option maxHeartbeats 4000000 in
set_option maxRecDepth 100000 in
theorem m_X10_recipeX (l : Launch) (dC : Nat → ClassId) (dI : Nat → Nat → Nat) (sa : Nat → Nat) (g : Nat → Nat) (h0 : Nat) (b : Nat → Nat) (i : Nat → Int32) (a : Nat → Nat → Int32) (rr : Int32) (nn : Int32) (sz : Nat) (hT2 : 0 ≤ (i 20).toInt ∧ (i 20).toInt ≤ 1500) (hBI : BI (a 26) (a 27) (a 31) (a 32) (a 33) (a 34) (a 35)) : CT l dC dI sa yX10_recipe wsX10_recipe rm_X10_recipeX [.ref h0, .int rr, .int nn] (mw g h0 b i a) (tyM g) sz (fun (r : Option Value) (u : Int32 × Int32 × Int32 × Int32 × Int32 × Int32 × Int32 × Int32 × Int32 × Int32 × (Nat → Int32) × (Nat → Int32) × (Nat → Int32) × (Nat → Int32) × (Nat → Int32) × (Nat → Int32) × (Nat → Int32) × (Nat → Int32) × (Nat → Int32) × (Nat → Int32)) => match u with | (x0, x20, x21, x22, x23, x24, x25, x36, x37, x38, y26, y27, y28, y29, y30, y31, y32, y33, y34, y35) => (∃ z : Int32, r = some (.int z)) ∧ (((0 ≤ x20.toInt ∧ x20.toInt ≤ 1500) ∧ BI y26 y27 y31 y32 y33 y34 y35) ∧ ((¬ Cq rr nn (i 20) ∧ x20 = (i 20) ∧ x23 = (i 23) ∧ x24 = (i 24) ∧ x0 = 1) ∨ (Cq rr nn (i 20) ∧ x20 = 0 ∧ x0 = 0 ∧ ∃ (ln : Nat) (r1 : SG), nn = nI ln ∧ ln ≤ 1500 ∧ Ev (Kp (a 19) ln) (Vp (a 19) ln) (nq (a 19) ln) 0 0 (sk (a 19) ln 0, 0, 0, -1) r1 ∧ x23 = (gpa (Kp (a 19) ln) (nq (a 19) ln) 0 r1).2.2.1 ∧ x24 = (gpa (Kp (a 19) ln) (nq (a 19) ln) 0 r1).2.2.2 ∧ r = some (.int x23))))) (fun (u : Int32 × Int32 × Int32 × Int32 × Int32 × Int32 × Int32 × Int32 × Int32 × Int32 × (Nat → Int32) × (Nat → Int32) × (Nat → Int32) × (Nat → Int32) × (Nat → Int32) × (Nat → Int32) × (Nat → Int32) × (Nat → Int32) × (Nat → Int32) × (Nat → Int32)) => match u with | (x0, x20, x21, x22, x23, x24, x25, x36, x37, x38, y26, y27, y28, y29, y30, y31, y32, y33, y34, y35) => mw g h0 b (va_up (va_up (va_up (va_up (va_up (va_up (va_up (va_up (va_up (va_up i 0 x0) 20 x20) 21 x21) 22 x22) 23 x23) 24 x24) 25 x25) 36 x36) 37 x37) 38 x38) (va_up (va_up (va_up (va_up (va_up (va_up (va_up (va_up (va_up (va_up a 26 y26) 27 y27) 28 y28) 29 y29) 30 y30) 31 y31) 32 y32) 33 y33) 34 y34) 35 y35)) (fun _ => []) 0 0 := by
  refine CT.start (cc := cX10_recipe) (maxL := 6) (ret := (some .int)) (by decide) rfl (Nat.le_of_ble_eq_true rfl) ?_
  intro p e s m below meth c ls hst hP hK hD hev hS hl
  obtain ⟨hx, hb, hr, hml, hts, hown, hlocks, hin⟩ := hst
  have hown : s.vm.findClass RX10 = some m.cls := hown
  have hA : ∀ q : Nat, s.heap.size ≤ q → va_A (mw g h0 b i a) s.heap.size q := fun _ h => Or.inr h
  have hl : lv_has ls 6 [(0, .ref h0), (1, .int rr), (2, .int nn)] := hl
  refine lv_aload_n hx hb dX10_recipe_0 rfl (lv_at hl 0 rfl) ?_
  refine lv_iconst (v := 0) hx hb dX10_recipe_1 (by decide) ?_
  refine va_put (D := (dC, dI)) (ci := 10) (v := .int 0) (ty := .int) (C := RX10) (T := TX10) (N := 51) hx hb hts inw_X10_recipe_10 tyX10 tyX10_ok nmX10 hown hK hP hD hS 0 rfl rfl 0 (by decide) (hts (.fieldLink RX10 105 "VatHouseModel" "thrown" "I") (by decide +kernel)) (fun _ h9 => h9) rfl (by decide +kernel) rfl rfl (Nat.le_of_ble_eq_true rfl) dX10_recipe_2 (fun H locs hP hD hS => ?_)
  have hP : va_P (dC, dI) vwCl (mw g h0 b (va_up i 0 (0 : Int32)) a) _ := hP
  have hD : va_D _ (mw g h0 b (va_up i 0 (0 : Int32)) a) := hD
  refine lv_aload_n hx hb dX10_recipe_5 rfl (lv_at hl 0 rfl) ?_
  refine lv_iload_n hx hb dX10_recipe_6 rfl (lv_at hl 1 rfl) ?_
  refine lv_if_lt (tgt := 32) hx hb dX10_recipe_7 (by decide) (fun c_1 => ?_) (fun c_1 => ?_)
  · have nc_1 := lt_i c_1
    have lc_1 : (0 : Int32).toInt = 0 := by decide
    refine lv_iconst (v := 0) hx hb dX10_recipe_32 (by decide) ?_
    refine lv_iconst (v := 1) hx hb dX10_recipe_33 (by decide) ?_
    refine M_V ⟨hx, hb, hml, hown, hts⟩ (m_X10_rightX l dC dI sa g h0 b (va_up i 0 (0 : Int32)) a (0 : Int32) (1 : Int32) _ (by decide) rfl) (cwV 2 hts gX10_recipe_X10_right rfl rfl rfl (by decide +kernel) ⟨Nat.le_of_ble_eq_true rfl, Nat.le_of_ble_eq_true rfl⟩) hP hD hK hS hA hev rfl rfl rfl rfl hl.1 rfl (Nat.le_of_ble_eq_true rfl) dX10_recipe_34 ⟨(Nat.le_of_ble_eq_true rfl), (Nat.le_of_ble_eq_true rfl)⟩ (fun r u H locs hw hP hD hS => ?_)
    obtain ⟨x0_2, rfl⟩ : ∃ z, z = u := ⟨_, rfl⟩
    have hw : ((r = some (.int 0) ∧ ((0 : Int32) = 0 ∧ x0_2 = (1 : Int32))) ∨ (r = some (.int 1) ∧ (¬ (0 : Int32) = 0 ∧ x0_2 = 0))) ∧ (True) := hw
    obtain ⟨⟨rfl, hz2_4⟩ | ⟨rfl, hz2_4⟩, hw_3⟩ := hw
    · have hP : va_P (dC, dI) vwCl (mw g h0 b (va_up i 0 x0_2) a) _ := hP
      have hD : va_D _ (mw g h0 b (va_up i 0 x0_2) a) := hD
      refine W.eq (g2 := F0 m 37 ls [.int 0]) rfl ?_
      refine lv_if_ne (tgt := 42) hx hb dX10_recipe_37 (by decide) (fun c_5 => absurd c_5 (by decide)) (fun _ => ?_)
      refine lv_iconst (v := 0) hx hb dX10_recipe_40 (by decide) ?_
      exact M_i hx hb hr hlocks (x0_2, (i 20), (i 21), (i 22), (i 23), (i 24), (i 25), (i 36), (i 37), (i 38), (a 26), (a 27), (a 28), (a 29), (a 30), (a 31), (a 32), (a 33), (a 34), (a 35)) hP hD hK hS ⟨⟨_, rfl⟩, ⟨⟨hT2, hBI⟩, Or.inl ⟨fun h9 => h9.1 c_1, rfl, rfl, rfl, hz2_4.2⟩⟩⟩ (Nat.le_of_ble_eq_true rfl) (Nat.le_of_ble_eq_true rfl) dX10_recipe_41
    · have hP : va_P (dC, dI) vwCl (mw g h0 b (va_up i 0 x0_2) a) _ := hP
      have hD : va_D _ (mw g h0 b (va_up i 0 x0_2) a) := hD
      refine W.eq (g2 := F0 m 37 ls [.int 1]) rfl ?_
      exact absurd rfl hz2_4.1
  · have nc_1 := nlt_i c_1
    have lc_1 : (0 : Int32).toInt = 0 := by decide
    refine lv_iload_n hx hb dX10_recipe_10 rfl (lv_at hl 1 rfl) ?_
    refine lv_bipush (v := 8) hx hb dX10_recipe_11 (by decide) ?_
    refine lv_icmp_ge (tgt := 32) hx hb dX10_recipe_13 (by decide) (fun c_6 => ?_) (fun c_6 => ?_)
    · have nc_6 := le_i c_6
      have lc_6 : (8 : Int32).toInt = 8 := by decide
      refine lv_iconst (v := 0) hx hb dX10_recipe_32 (by decide) ?_
      refine lv_iconst (v := 1) hx hb dX10_recipe_33 (by decide) ?_
      refine M_V ⟨hx, hb, hml, hown, hts⟩ (m_X10_rightX l dC dI sa g h0 b (va_up i 0 (0 : Int32)) a (0 : Int32) (1 : Int32) _ (by decide) rfl) (cwV 2 hts gX10_recipe_X10_right rfl rfl rfl (by decide +kernel) ⟨Nat.le_of_ble_eq_true rfl, Nat.le_of_ble_eq_true rfl⟩) hP hD hK hS hA hev rfl rfl rfl rfl hl.1 rfl (Nat.le_of_ble_eq_true rfl) dX10_recipe_34 ⟨(Nat.le_of_ble_eq_true rfl), (Nat.le_of_ble_eq_true rfl)⟩ (fun r u H locs hw hP hD hS => ?_)
      obtain ⟨x0_7, rfl⟩ : ∃ z, z = u := ⟨_, rfl⟩
      have hw : ((r = some (.int 0) ∧ ((0 : Int32) = 0 ∧ x0_7 = (1 : Int32))) ∨ (r = some (.int 1) ∧ (¬ (0 : Int32) = 0 ∧ x0_7 = 0))) ∧ (True) := hw
      obtain ⟨⟨rfl, hz2_9⟩ | ⟨rfl, hz2_9⟩, hw_8⟩ := hw
      · have hP : va_P (dC, dI) vwCl (mw g h0 b (va_up i 0 x0_7) a) _ := hP
        have hD : va_D _ (mw g h0 b (va_up i 0 x0_7) a) := hD
        refine W.eq (g2 := F0 m 37 ls [.int 0]) rfl ?_
        refine lv_if_ne (tgt := 42) hx hb dX10_recipe_37 (by decide) (fun c_10 => absurd c_10 (by decide)) (fun _ => ?_)
        refine lv_iconst (v := 0) hx hb dX10_recipe_40 (by decide) ?_
        exact M_i hx hb hr hlocks (x0_7, (i 20), (i 21), (i 22), (i 23), (i 24), (i 25), (i 36), (i 37), (i 38), (a 26), (a 27), (a 28), (a 29), (a 30), (a 31), (a 32), (a 33), (a 34), (a 35)) hP hD hK hS ⟨⟨_, rfl⟩, ⟨⟨hT2, hBI⟩, Or.inl ⟨fun h9 => h9.2.1 c_6, rfl, rfl, rfl, hz2_9.2⟩⟩⟩ (Nat.le_of_ble_eq_true rfl) (Nat.le_of_ble_eq_true rfl) dX10_recipe_41
      · have hP : va_P (dC, dI) vwCl (mw g h0 b (va_up i 0 x0_7) a) _ := hP
        have hD : va_D _ (mw g h0 b (va_up i 0 x0_7) a) := hD
        refine W.eq (g2 := F0 m 37 ls [.int 1]) rfl ?_
        exact absurd rfl hz2_9.1
    · have nc_6 := nle_i c_6
      have lc_6 : (8 : Int32).toInt = 8 := by decide
      refine lv_iload_n hx hb dX10_recipe_16 rfl (lv_at hl 2 rfl) ?_
      refine lv_if_lt (tgt := 32) hx hb dX10_recipe_17 (by decide) (fun c_11 => ?_) (fun c_11 => ?_)
      · have nc_11 := lt_i c_11
        have lc_11 : (0 : Int32).toInt = 0 := by decide
        refine lv_iconst (v := 0) hx hb dX10_recipe_32 (by decide) ?_
        refine lv_iconst (v := 1) hx hb dX10_recipe_33 (by decide) ?_
        refine M_V ⟨hx, hb, hml, hown, hts⟩ (m_X10_rightX l dC dI sa g h0 b (va_up i 0 (0 : Int32)) a (0 : Int32) (1 : Int32) _ (by decide) rfl) (cwV 2 hts gX10_recipe_X10_right rfl rfl rfl (by decide +kernel) ⟨Nat.le_of_ble_eq_true rfl, Nat.le_of_ble_eq_true rfl⟩) hP hD hK hS hA hev rfl rfl rfl rfl hl.1 rfl (Nat.le_of_ble_eq_true rfl) dX10_recipe_34 ⟨(Nat.le_of_ble_eq_true rfl), (Nat.le_of_ble_eq_true rfl)⟩ (fun r u H locs hw hP hD hS => ?_)
        obtain ⟨x0_12, rfl⟩ : ∃ z, z = u := ⟨_, rfl⟩
        have hw : ((r = some (.int 0) ∧ ((0 : Int32) = 0 ∧ x0_12 = (1 : Int32))) ∨ (r = some (.int 1) ∧ (¬ (0 : Int32) = 0 ∧ x0_12 = 0))) ∧ (True) := hw
        obtain ⟨⟨rfl, hz2_14⟩ | ⟨rfl, hz2_14⟩, hw_13⟩ := hw
        · have hP : va_P (dC, dI) vwCl (mw g h0 b (va_up i 0 x0_12) a) _ := hP
          have hD : va_D _ (mw g h0 b (va_up i 0 x0_12) a) := hD
          refine W.eq (g2 := F0 m 37 ls [.int 0]) rfl ?_
          refine lv_if_ne (tgt := 42) hx hb dX10_recipe_37 (by decide) (fun c_15 => absurd c_15 (by decide)) (fun _ => ?_)
          refine lv_iconst (v := 0) hx hb dX10_recipe_40 (by decide) ?_
          exact M_i hx hb hr hlocks (x0_12, (i 20), (i 21), (i 22), (i 23), (i 24), (i 25), (i 36), (i 37), (i 38), (a 26), (a 27), (a 28), (a 29), (a 30), (a 31), (a 32), (a 33), (a 34), (a 35)) hP hD hK hS ⟨⟨_, rfl⟩, ⟨⟨hT2, hBI⟩, Or.inl ⟨fun h9 => h9.2.2.1 c_11, rfl, rfl, rfl, hz2_14.2⟩⟩⟩ (Nat.le_of_ble_eq_true rfl) (Nat.le_of_ble_eq_true rfl) dX10_recipe_41
        · have hP : va_P (dC, dI) vwCl (mw g h0 b (va_up i 0 x0_12) a) _ := hP
          have hD : va_D _ (mw g h0 b (va_up i 0 x0_12) a) := hD
          refine W.eq (g2 := F0 m 37 ls [.int 1]) rfl ?_
          exact absurd rfl hz2_14.1
      · have nc_11 := nlt_i c_11
        have lc_11 : (0 : Int32).toInt = 0 := by decide
        refine lv_iload_n hx hb dX10_recipe_20 rfl (lv_at hl 2 rfl) ?_
        refine lv_aload_n hx hb dX10_recipe_21 rfl (lv_at hl 0 rfl) ?_
        refine va_get (D := (dC, dI)) (ci := 10) (v := .int (i 20)) (C := RX10) (T := TX10) (N := 51) hx hb hts inw_X10_recipe_10 hown hK hP 0 rfl rfl 20 (by decide) (hts (.fieldLink RX10 159 "VatHouseModel" "taped" "I") (by decide +kernel)) (fun _ h9 => h9) rfl dX10_recipe_22 ?_
        refine lv_icmp_gt (tgt := 32) hx hb dX10_recipe_25 (by decide) (fun c_16 => ?_) (fun c_16 => ?_)
        · have nc_16 := lt_i c_16
          refine lv_iconst (v := 0) hx hb dX10_recipe_32 (by decide) ?_
          refine lv_iconst (v := 1) hx hb dX10_recipe_33 (by decide) ?_
          refine M_V ⟨hx, hb, hml, hown, hts⟩ (m_X10_rightX l dC dI sa g h0 b (va_up i 0 (0 : Int32)) a (0 : Int32) (1 : Int32) _ (by decide) rfl) (cwV 2 hts gX10_recipe_X10_right rfl rfl rfl (by decide +kernel) ⟨Nat.le_of_ble_eq_true rfl, Nat.le_of_ble_eq_true rfl⟩) hP hD hK hS hA hev rfl rfl rfl rfl hl.1 rfl (Nat.le_of_ble_eq_true rfl) dX10_recipe_34 ⟨(Nat.le_of_ble_eq_true rfl), (Nat.le_of_ble_eq_true rfl)⟩ (fun r u H locs hw hP hD hS => ?_)
          obtain ⟨x0_17, rfl⟩ : ∃ z, z = u := ⟨_, rfl⟩
          have hw : ((r = some (.int 0) ∧ ((0 : Int32) = 0 ∧ x0_17 = (1 : Int32))) ∨ (r = some (.int 1) ∧ (¬ (0 : Int32) = 0 ∧ x0_17 = 0))) ∧ (True) := hw
          obtain ⟨⟨rfl, hz2_19⟩ | ⟨rfl, hz2_19⟩, hw_18⟩ := hw
          · have hP : va_P (dC, dI) vwCl (mw g h0 b (va_up i 0 x0_17) a) _ := hP
            have hD : va_D _ (mw g h0 b (va_up i 0 x0_17) a) := hD
            refine W.eq (g2 := F0 m 37 ls [.int 0]) rfl ?_
            refine lv_if_ne (tgt := 42) hx hb dX10_recipe_37 (by decide) (fun c_20 => absurd c_20 (by decide)) (fun _ => ?_)
            refine lv_iconst (v := 0) hx hb dX10_recipe_40 (by decide) ?_
            exact M_i hx hb hr hlocks (x0_17, (i 20), (i 21), (i 22), (i 23), (i 24), (i 25), (i 36), (i 37), (i 38), (a 26), (a 27), (a 28), (a 29), (a 30), (a 31), (a 32), (a 33), (a 34), (a 35)) hP hD hK hS ⟨⟨_, rfl⟩, ⟨⟨hT2, hBI⟩, Or.inl ⟨fun h9 => h9.2.2.2 c_16, rfl, rfl, rfl, hz2_19.2⟩⟩⟩ (Nat.le_of_ble_eq_true rfl) (Nat.le_of_ble_eq_true rfl) dX10_recipe_41
          · have hP : va_P (dC, dI) vwCl (mw g h0 b (va_up i 0 x0_17) a) _ := hP
            have hD : va_D _ (mw g h0 b (va_up i 0 x0_17) a) := hD
            refine W.eq (g2 := F0 m 37 ls [.int 1]) rfl ?_
            exact absurd rfl hz2_19.1
        · have nc_16 := nlt_i c_16
          refine lv_iconst (v := 1) hx hb dX10_recipe_28 (by decide) ?_
          refine lv_goto (tgt := 33) hx hb dX10_recipe_29 (by decide) ?_
          refine lv_iconst (v := 1) hx hb dX10_recipe_33 (by decide) ?_
          refine M_V ⟨hx, hb, hml, hown, hts⟩ (m_X10_rightX l dC dI sa g h0 b (va_up i 0 (0 : Int32)) a (1 : Int32) (1 : Int32) _ (by decide) rfl) (cwV 2 hts gX10_recipe_X10_right rfl rfl rfl (by decide +kernel) ⟨Nat.le_of_ble_eq_true rfl, Nat.le_of_ble_eq_true rfl⟩) hP hD hK hS hA hev rfl rfl rfl rfl hl.1 rfl (Nat.le_of_ble_eq_true rfl) dX10_recipe_34 ⟨(Nat.le_of_ble_eq_true rfl), (Nat.le_of_ble_eq_true rfl)⟩ (fun r u H locs hw hP hD hS => ?_)
          obtain ⟨x0_21, rfl⟩ : ∃ z, z = u := ⟨_, rfl⟩
          have hw : ((r = some (.int 0) ∧ ((1 : Int32) = 0 ∧ x0_21 = (1 : Int32))) ∨ (r = some (.int 1) ∧ (¬ (1 : Int32) = 0 ∧ x0_21 = 0))) ∧ (True) := hw
          obtain ⟨⟨rfl, hz2_23⟩ | ⟨rfl, hz2_23⟩, hw_22⟩ := hw
          · have hP : va_P (dC, dI) vwCl (mw g h0 b (va_up i 0 x0_21) a) _ := hP
            have hD : va_D _ (mw g h0 b (va_up i 0 x0_21) a) := hD
            refine W.eq (g2 := F0 m 37 ls [.int 0]) rfl ?_
            exact absurd hz2_23.1 (by decide)
          · have hP : va_P (dC, dI) vwCl (mw g h0 b (va_up i 0 x0_21) a) _ := hP
            have hD : va_D _ (mw g h0 b (va_up i 0 x0_21) a) := hD
            refine W.eq (g2 := F0 m 37 ls [.int 1]) rfl ?_
            refine lv_if_ne (tgt := 42) hx hb dX10_recipe_37 (by decide) (fun _ => ?_) (fun c_24 => absurd c_24 (by decide))
            refine lv_aload_n hx hb dX10_recipe_42 rfl (lv_at hl 0 rfl) ?_
            refine lv_iload_n hx hb dX10_recipe_43 rfl (lv_at hl 2 rfl) ?_
            refine va_put (D := (dC, dI)) (ci := 10) (v := .int nn) (ty := .int) (C := RX10) (T := TX10) (N := 51) hx hb hts inw_X10_recipe_10 tyX10 tyX10_ok nmX10 hown hK hP hD hS 0 rfl rfl 21 (by decide) (hts (.fieldLink RX10 171 "VatHouseModel" "size" "I") (by decide +kernel)) (fun _ h9 => h9) rfl (by decide +kernel) rfl rfl (Nat.le_of_ble_eq_true rfl) dX10_recipe_44 (fun H locs hP hD hS => ?_)
            have hP : va_P (dC, dI) vwCl (mw g h0 b (va_up (va_up i 0 x0_21) 21 nn) a) _ := hP
            have hD : va_D _ (mw g h0 b (va_up (va_up i 0 x0_21) 21 nn) a) := hD
            refine lv_aload_n hx hb dX10_recipe_47 rfl (lv_at hl 0 rfl) ?_
            refine lv_iconst (v := 0) hx hb dX10_recipe_48 (by decide) ?_
            refine va_put (D := (dC, dI)) (ci := 10) (v := .int 0) (ty := .int) (C := RX10) (T := TX10) (N := 51) hx hb hts inw_X10_recipe_10 tyX10 tyX10_ok nmX10 hown hK hP hD hS 0 rfl rfl 22 (by decide) (hts (.fieldLink RX10 168 "VatHouseModel" "at" "I") (by decide +kernel)) (fun _ h9 => h9) rfl (by decide +kernel) rfl rfl (Nat.le_of_ble_eq_true rfl) dX10_recipe_49 (fun H locs hP hD hS => ?_)
            have hP : va_P (dC, dI) vwCl (mw g h0 b (va_up (va_up (va_up i 0 x0_21) 21 nn) 22 (0 : Int32)) a) _ := hP
            have hD : va_D _ (mw g h0 b (va_up (va_up (va_up i 0 x0_21) 21 nn) 22 (0 : Int32)) a) := hD
            refine lv_aload_n hx hb dX10_recipe_52 rfl (lv_at hl 0 rfl) ?_
            refine lv_iconst (v := 0) hx hb dX10_recipe_53 (by decide) ?_
            refine va_put (D := (dC, dI)) (ci := 10) (v := .int 0) (ty := .int) (C := RX10) (T := TX10) (N := 51) hx hb hts inw_X10_recipe_10 tyX10 tyX10_ok nmX10 hown hK hP hD hS 0 rfl rfl 20 (by decide) (hts (.fieldLink RX10 159 "VatHouseModel" "taped" "I") (by decide +kernel)) (fun _ h9 => h9) rfl (by decide +kernel) rfl rfl (Nat.le_of_ble_eq_true rfl) dX10_recipe_54 (fun H locs hP hD hS => ?_)
            have hP : va_P (dC, dI) vwCl (mw g h0 b (va_up (va_up (va_up (va_up i 0 x0_21) 20 (0 : Int32)) 21 nn) 22 (0 : Int32)) a) _ := hP
            have hD : va_D _ (mw g h0 b (va_up (va_up (va_up (va_up i 0 x0_21) 20 (0 : Int32)) 21 nn) 22 (0 : Int32)) a) := hD
            refine lv_aload_n hx hb dX10_recipe_57 rfl (lv_at hl 0 rfl) ?_
            refine lv_iconst (v := 0) hx hb dX10_recipe_58 (by decide) ?_
            refine va_put (D := (dC, dI)) (ci := 10) (v := .int 0) (ty := .int) (C := RX10) (T := TX10) (N := 51) hx hb hts inw_X10_recipe_10 tyX10 tyX10_ok nmX10 hown hK hP hD hS 0 rfl rfl 23 (by decide) (hts (.fieldLink RX10 165 "VatHouseModel" "faultKind" "I") (by decide +kernel)) (fun _ h9 => h9) rfl (by decide +kernel) rfl rfl (Nat.le_of_ble_eq_true rfl) dX10_recipe_59 (fun H locs hP hD hS => ?_)
            have hP : va_P (dC, dI) vwCl (mw g h0 b (va_up (va_up (va_up (va_up (va_up i 0 x0_21) 20 (0 : Int32)) 21 nn) 22 (0 : Int32)) 23 (0 : Int32)) a) _ := hP
            have hD : va_D _ (mw g h0 b (va_up (va_up (va_up (va_up (va_up i 0 x0_21) 20 (0 : Int32)) 21 nn) 22 (0 : Int32)) 23 (0 : Int32)) a) := hD
            refine lv_aload_n hx hb dX10_recipe_62 rfl (lv_at hl 0 rfl) ?_
            refine lv_iconst (v := (-1)) hx hb dX10_recipe_63 (by decide) ?_
            refine va_put (D := (dC, dI)) (ci := 10) (v := .int (-1)) (ty := .int) (C := RX10) (T := TX10) (N := 51) hx hb hts inw_X10_recipe_10 tyX10 tyX10_ok nmX10 hown hK hP hD hS 0 rfl rfl 24 (by decide) (hts (.fieldLink RX10 56 "VatHouseModel" "faultPlace" "I") (by decide +kernel)) (fun _ h9 => h9) rfl (by decide +kernel) rfl rfl (Nat.le_of_ble_eq_true rfl) dX10_recipe_64 (fun H locs hP hD hS => ?_)
            have hP : va_P (dC, dI) vwCl (mw g h0 b (va_up (va_up (va_up (va_up (va_up (va_up i 0 x0_21) 20 (0 : Int32)) 21 nn) 22 (0 : Int32)) 23 (0 : Int32)) 24 ((-1) : Int32)) a) _ := hP
            have hD : va_D _ (mw g h0 b (va_up (va_up (va_up (va_up (va_up (va_up i 0 x0_21) 20 (0 : Int32)) 21 nn) 22 (0 : Int32)) 23 (0 : Int32)) 24 ((-1) : Int32)) a) := hD
            refine lv_aload_n hx hb dX10_recipe_67 rfl (lv_at hl 0 rfl) ?_
            refine lv_iconst (v := 0) hx hb dX10_recipe_68 (by decide) ?_
            refine va_put (D := (dC, dI)) (ci := 10) (v := .int 0) (ty := .int) (C := RX10) (T := TX10) (N := 51) hx hb hts inw_X10_recipe_10 tyX10 tyX10_ok nmX10 hown hK hP hD hS 0 rfl rfl 36 (by decide) (hts (.fieldLink RX10 249 "VatHouseModel" "nodes" "I") (by decide +kernel)) (fun _ h9 => h9) rfl (by decide +kernel) rfl rfl (Nat.le_of_ble_eq_true rfl) dX10_recipe_69 (fun H locs hP hD hS => ?_)
            have hP : va_P (dC, dI) vwCl (mw g h0 b (va_up (va_up (va_up (va_up (va_up (va_up (va_up i 0 x0_21) 20 (0 : Int32)) 21 nn) 22 (0 : Int32)) 23 (0 : Int32)) 24 ((-1) : Int32)) 36 (0 : Int32)) a) _ := hP
            have hD : va_D _ (mw g h0 b (va_up (va_up (va_up (va_up (va_up (va_up (va_up i 0 x0_21) 20 (0 : Int32)) 21 nn) 22 (0 : Int32)) 23 (0 : Int32)) 24 ((-1) : Int32)) 36 (0 : Int32)) a) := hD
            refine lv_aload_n hx hb dX10_recipe_72 rfl (lv_at hl 0 rfl) ?_
            refine lv_iconst (v := 0) hx hb dX10_recipe_73 (by decide) ?_
            refine va_put (D := (dC, dI)) (ci := 10) (v := .int 0) (ty := .int) (C := RX10) (T := TX10) (N := 51) hx hb hts inw_X10_recipe_10 tyX10 tyX10_ok nmX10 hown hK hP hD hS 0 rfl rfl 38 (by decide) (hts (.fieldLink RX10 277 "VatHouseModel" "blocks" "I") (by decide +kernel)) (fun _ h9 => h9) rfl (by decide +kernel) rfl rfl (Nat.le_of_ble_eq_true rfl) dX10_recipe_74 (fun H locs hP hD hS => ?_)
            have hP : va_P (dC, dI) vwCl (mw g h0 b (va_up (va_up (va_up (va_up (va_up (va_up (va_up (va_up i 0 x0_21) 20 (0 : Int32)) 21 nn) 22 (0 : Int32)) 23 (0 : Int32)) 24 ((-1) : Int32)) 36 (0 : Int32)) 38 (0 : Int32)) a) _ := hP
            have hD : va_D _ (mw g h0 b (va_up (va_up (va_up (va_up (va_up (va_up (va_up (va_up i 0 x0_21) 20 (0 : Int32)) 21 nn) 22 (0 : Int32)) 23 (0 : Int32)) 24 ((-1) : Int32)) 36 (0 : Int32)) 38 (0 : Int32)) a) := hD
            refine lv_aload_n hx hb dX10_recipe_77 rfl (lv_at hl 0 rfl) ?_
            refine lv_iconst (v := 0) hx hb dX10_recipe_78 (by decide) ?_
            obtain ⟨ln, hnl, hln⟩ := rc_ln c_11 c_16 hT2.2
            refine M_V ⟨hx, hb, hml, hown, hts⟩ (X10_steps_all l dC dI sa g h0 b 8 0 rfl (fun _ => 0) ln (sk (a 19) ln 0, 0, 0, -1) (va_up (va_up (va_up (va_up (va_up (va_up (va_up (va_up i 0 x0_21) 20 (0 : Int32)) 21 nn) 22 (0 : Int32)) 23 (0 : Int32)) 24 ((-1) : Int32)) 36 (0 : Int32)) 38 (0 : Int32)) a (0 : Int32) _ (show nn = nI ln ∧ ln ≤ 1500 from ⟨hnl, hln⟩) (show MI (a 19) ln (sk (a 19) ln 0, 0, 0, -1) (0 : Int32) (0 : Int32) ((-1) : Int32) from ⟨rfl, rfl, rfl, 0, nI_0.symm, Nat.zero_le _, rfl⟩) (nI_0.symm) PN_zero (nI_0.symm) (Nat.zero_le _)) (cwV 1 hts gX10_recipe_X10_steps rfl rfl rfl (by decide +kernel) ⟨Nat.le_of_ble_eq_true rfl, Nat.le_of_ble_eq_true rfl⟩) hP hD hK hS hA hev rfl rfl rfl rfl hl.1 rfl (Nat.le_of_ble_eq_true rfl) dX10_recipe_79 ⟨(Nat.le_of_ble_eq_true rfl), (Nat.le_of_ble_eq_true rfl)⟩ (fun r u H locs hw hP hD hS => ?_)
            obtain ⟨x22_25, x23_26, x24_27, x25_28, x36_29, y26_30, y27_31, y28_32, y29_33, y30_34, y31_35, y32_36, y33_37⟩ := u
            have hw : (∃ z : Int32, r = some (.int z)) ∧ (∃ dpN : Nat → Nat, PR (0 : Int32) x36_29 (fun _ => 0) dpN (a 26) (a 27) (a 31) (a 32) (a 33) y26_30 y27_31 y31_35 y32_36 y33_37 ∧ (∀ z : Int32, r = some (.int z) → (z = -2 ∧ ∃ rn : SG, ST (Kp (a 19) ln) (Vp (a 19) ln) (nq (a 19) ln) 0 (if (0 : Int32) = 0 then (0 : Int32) else 125) (sk (a 19) ln 0, 0, 0, -1) rn ∧ MO rn x23_26 x24_27) ∨ (lk (PV x36_29) dpN 0 z ∧ ∃ rn : SG, ST (Kp (a 19) ln) (Vp (a 19) ln) (nq (a 19) ln) 0 (if (0 : Int32) = 0 then (0 : Int32) else 125) (sk (a 19) ln 0, 0, 0, -1) rn ∧ MI (a 19) ln rn x22_25 x23_26 x24_27 ∧ x36_29 = nI rn.2.1))) := hw
            obtain ⟨⟨z_39, rfl⟩, hw_38⟩ := hw
            have hP : va_P (dC, dI) vwCl (mw g h0 b (va_up (va_up (va_up (va_up (va_up (va_up (va_up (va_up (va_up i 0 x0_21) 20 (0 : Int32)) 21 nn) 22 x22_25) 23 x23_26) 24 x24_27) 25 x25_28) 36 x36_29) 38 (0 : Int32)) (va_up (va_up (va_up (va_up (va_up (va_up (va_up (va_up a 26 y26_30) 27 y27_31) 28 y28_32) 29 y29_33) 30 y30_34) 31 y31_35) 32 y32_36) 33 y33_37)) _ := hP
            have hD : va_D _ (mw g h0 b (va_up (va_up (va_up (va_up (va_up (va_up (va_up (va_up (va_up i 0 x0_21) 20 (0 : Int32)) 21 nn) 22 x22_25) 23 x23_26) 24 x24_27) 25 x25_28) 36 x36_29) 38 (0 : Int32)) (va_up (va_up (va_up (va_up (va_up (va_up (va_up (va_up a 26 y26_30) 27 y27_31) 28 y28_32) 29 y29_33) 30 y30_34) 31 y31_35) 32 y32_36) 33 y33_37)) := hD
            refine W.eq (g2 := F0 m 82 ls [.int z_39]) rfl ?_
            obtain ⟨dp_41, hPR_40, hres_42⟩ := hw_38
            have hres_42 := hres_42 _ rfl
            obtain ⟨rn, r1, hev1, hrn, h23, h24⟩ := rc_end hres_42
            refine lv_istore_n (lv' := [(3, .int z_39), (0, .ref h0), (1, .int rr), (2, .int nn)]) hx hb dX10_recipe_82 rfl hl (by decide) rfl (fun ls hl => ?_)
            refine lv_aload_n hx hb dX10_recipe_83 rfl (lv_at hl 1 rfl) ?_
            refine va_get (D := (dC, dI)) (ci := 10) (v := .int x23_26) (C := RX10) (T := TX10) (N := 51) hx hb hts inw_X10_recipe_10 hown hK hP 0 rfl rfl 23 (by decide) (hts (.fieldLink RX10 165 "VatHouseModel" "faultKind" "I") (by decide +kernel)) (fun _ h9 => h9) rfl dX10_recipe_84 ?_
            refine lv_if_le (tgt := 95) hx hb dX10_recipe_87 (by decide) (fun c_43 => ?_) (fun c_43 => ?_)
            · have nc_43 := le_i c_43
              have lc_43 : (0 : Int32).toInt = 0 := by decide
              refine lv_sipush (v := 300) hx hb dX10_recipe_95 (by decide) ?_
              refine lv_iload_n hx hb dX10_recipe_98 rfl (lv_at hl 2 rfl) ?_
              refine lv_imul hx hb dX10_recipe_99 ?_
              refine lv_topi (fun z_44 ez_44 => ?_)
              refine lv_sipush (v := 2400) hx hb dX10_recipe_100 (by decide) ?_
              refine lv_isub hx hb dX10_recipe_103 ?_
              refine lv_topi (fun z_45 ez_45 => ?_)
              refine lv_istore (lv' := [(4, .int z_45), (3, .int z_39), (0, .ref h0), (1, .int rr), (2, .int nn)]) hx hb dX10_recipe_104 hl (by decide) rfl (fun ls hl => ?_)
              obtain ⟨r, hr8, hrr⟩ : ∃ r : Nat, r < 8 ∧ rr.toInt = (r : Int) := ⟨rr.toInt.toNat, by omega, by omega⟩
              have hrc : rr.toNatClampNeg = r := by have h9 := clamp_i (x := rr) (by omega); omega
              have t300 : (300 : Int32).toInt = 300 := by decide
              have tz_44 := mulc_i ez_44 (by decide : (300 : Int32).toInt = 300) (by omega) (by omega)
              have t2400 : (2400 : Int32).toInt = 2400 := by decide
              have tz_45 := sub_i ez_45 (by omega) (by omega)
              have hby : z_45.toInt = 300 * (r : Int) - 2400 := by omega
              have hlkz := (hres_42.resolve_left (fun h9 => by obtain ⟨-, rn, -, h8⟩ := h9; have h8 := h8.2.2.2; omega)).1
              have hN3 := hPR_40.2.1.2.1
              have hN0 := hPR_40.2.1.1
              refine lv_sipush (v := 2400) hx hb dX10_recipe_106 (by decide) ?_
              refine lv_istore (lv' := [(5, .int 2400), (4, .int z_45), (3, .int z_39), (0, .ref h0), (1, .int rr), (2, .int nn)]) hx hb dX10_recipe_109 hl (by decide) rfl (fun ls hl => ?_)
              have lp : ∀ (n : Nat) (kx : Int32) (l26 : Nat → Int32) (l27 : Nat → Int32) (l28 : Nat → Int32) (l29 : Nat → Int32) (l30 : Nat → Int32) (l31 : Nat → Int32) (l32 : Nat → Int32) (l33 : Nat → Int32) (H : Heap) (locs : List Loc) (ls : Array Slot), ((2400 + x36_29.toInt - kx.toInt).toNat < n) → (∃ d : Nat, kx = nI (2400 + d) ∧ (d : Int) ≤ x36_29.toInt ∧ CP r d z_45 y26_30 y27_31 y31_35 y32_36 y33_37 l26 l27 l31 l32 l33) → va_P (dC, dI) vwCl (mw g h0 b (va_up (va_up (va_up (va_up (va_up (va_up (va_up (va_up (va_up i 0 x0_21) 20 (0 : Int32)) 21 nn) 22 x22_25) 23 x23_26) 24 x24_27) 25 x25_28) 36 x36_29) 38 (0 : Int32)) (va_up (va_up (va_up (va_up (va_up (va_up (va_up (va_up a 26 l26) 27 l27) 28 l28) 29 l29) 30 l30) 31 l31) 32 l32) 33 l33)) H → va_D (va_A (mw g h0 b i a) s.heap.size) (mw g h0 b (va_up (va_up (va_up (va_up (va_up (va_up (va_up (va_up (va_up i 0 x0_21) 20 (0 : Int32)) 21 nn) 22 x22_25) 23 x23_26) 24 x24_27) 25 x25_28) 36 x36_29) 38 (0 : Int32)) (va_up (va_up (va_up (va_up (va_up (va_up (va_up (va_up a 26 l26) 27 l27) 28 l28) 29 l29) 30 l30) 31 l31) 32 l32) 33 l33)) → va_S (va_A (mw g h0 b i a) s.heap.size) s.heap H locs → lv_has ls 6 [(5, .int kx), (4, .int z_45), (3, .int z_39), (0, .ref h0), (1, .int rr), (2, .int nn)] → W p l e rm_X10_recipeX s m [.ref h0, .int rr, .int nn].toArray below meth c H locs 0 0 (MQ below (Qg (fun (r : Option Value) (u : Int32 × Int32 × Int32 × Int32 × Int32 × Int32 × Int32 × Int32 × Int32 × Int32 × (Nat → Int32) × (Nat → Int32) × (Nat → Int32) × (Nat → Int32) × (Nat → Int32) × (Nat → Int32) × (Nat → Int32) × (Nat → Int32) × (Nat → Int32) × (Nat → Int32)) => match u with | (x0, x20, x21, x22, x23, x24, x25, x36, x37, x38, y26, y27, y28, y29, y30, y31, y32, y33, y34, y35) => (∃ z : Int32, r = some (.int z)) ∧ (((0 ≤ x20.toInt ∧ x20.toInt ≤ 1500) ∧ BI y26 y27 y31 y32 y33 y34 y35) ∧ ((¬ Cq rr nn (i 20) ∧ x20 = (i 20) ∧ x23 = (i 23) ∧ x24 = (i 24) ∧ x0 = 1) ∨ (Cq rr nn (i 20) ∧ x20 = 0 ∧ x0 = 0 ∧ ∃ (ln : Nat) (r1 : SG), nn = nI ln ∧ ln ≤ 1500 ∧ Ev (Kp (a 19) ln) (Vp (a 19) ln) (nq (a 19) ln) 0 0 (sk (a 19) ln 0, 0, 0, -1) r1 ∧ x23 = (gpa (Kp (a 19) ln) (nq (a 19) ln) 0 r1).2.2.1 ∧ x24 = (gpa (Kp (a 19) ln) (nq (a 19) ln) 0 r1).2.2.2 ∧ r = some (.int x23))))) (fun u t => QW dC dI (va_A (mw g h0 b i a) s.heap.size) ((fun (u : Int32 × Int32 × Int32 × Int32 × Int32 × Int32 × Int32 × Int32 × Int32 × Int32 × (Nat → Int32) × (Nat → Int32) × (Nat → Int32) × (Nat → Int32) × (Nat → Int32) × (Nat → Int32) × (Nat → Int32) × (Nat → Int32) × (Nat → Int32) × (Nat → Int32)) => match u with | (x0, x20, x21, x22, x23, x24, x25, x36, x37, x38, y26, y27, y28, y29, y30, y31, y32, y33, y34, y35) => mw g h0 b (va_up (va_up (va_up (va_up (va_up (va_up (va_up (va_up (va_up (va_up i 0 x0) 20 x20) 21 x21) 22 x22) 23 x23) 24 x24) 25 x25) 36 x36) 37 x37) 38 x38) (va_up (va_up (va_up (va_up (va_up (va_up (va_up (va_up (va_up (va_up a 26 y26) 27 y27) 28 y28) 29 y29) 30 y30) 31 y31) 32 y32) 33 y33) 34 y34) 35 y35)) u) [] t) (va_A (mw g h0 b i a) s.heap.size)) [.ref h0, .int rr, .int nn].toArray s 0 0 (va_A (mw g h0 b i a) s.heap.size)) (F0 m 111 ls []) := by
                intro n
                induction n with
                | zero => intro kx l26 l27 l28 l29 l30 l31 l32 l33 H locs ls hm hcE hP hD hS hl; exact absurd hm (by omega)
                | succ n ih =>
                  intro kx l26 l27 l28 l29 l30 l31 l32 l33 H locs ls hm hcE hP hD hS hl
                  refine lv_iload hx hb dX10_recipe_111 (lv_at hl 0 rfl) ?_
                  refine lv_sipush (v := 2400) hx hb dX10_recipe_113 (by decide) ?_
                  refine lv_aload_n hx hb dX10_recipe_116 rfl (lv_at hl 3 rfl) ?_
                  refine va_get (D := (dC, dI)) (ci := 10) (v := .int x36_29) (C := RX10) (T := TX10) (N := 51) hx hb hts inw_X10_recipe_10 hown hK hP 0 rfl rfl 36 (by decide) (hts (.fieldLink RX10 249 "VatHouseModel" "nodes" "I") (by decide +kernel)) (fun _ h9 => h9) rfl dX10_recipe_117 ?_
                  refine lv_iadd hx hb dX10_recipe_120 ?_
                  refine lv_topi (fun z_46 ez_46 => ?_)
                  obtain ⟨d, hd1, hd2, hcp⟩ := hcE
                  have hkxI : kx.toInt = 2400 + (d : Int) := by rw [hd1, nI_toInt (by omega)]; omega
                  have t2400 : (2400 : Int32).toInt = 2400 := by decide
                  have tz_46 := add_i ez_46 (by omega) (by omega)
                  refine lv_icmp_ge (tgt := 320) hx hb dX10_recipe_121 (by decide) (fun c_47 => ?_) (fun c_47 => ?_)
                  · have nc_47 := le_i c_47
                    have hdN : d = x36_29.toInt.toNat := by omega
                    rw [hdN] at hcp
                    refine lv_aload_n hx hb dX10_recipe_320 rfl (lv_at hl 3 rfl) ?_
                    refine va_get (D := (dC, dI)) (ci := 10) (v := .ref (b 34)) (C := RX10) (T := TX10) (N := 51) hx hb hts inw_X10_recipe_10 hown hK hP 0 rfl rfl 34 (by decide) (hts (.fieldLink RX10 84 "VatHouseModel" "first" "[I") (by decide +kernel)) (fun _ h9 => h9) rfl dX10_recipe_321 ?_
                    refine lv_iload_n hx hb dX10_recipe_324 rfl (lv_at hl 4 rfl) ?_
                    refine lv_iload_n hx hb dX10_recipe_325 rfl (lv_at hl 2 rfl) ?_
                    refine lv_iconst (v := (-1)) hx hb dX10_recipe_326 (by decide) ?_
                    refine lv_icmp_ne (tgt := 335) hx hb dX10_recipe_327 (by decide) (fun c_48 => ?_) (fun c_48 => ?_)
                    · have nc_48 := ne_i c_48
                      have lc_48 : ((-1) : Int32).toInt = -1 := by decide
                      refine lv_iload_n hx hb dX10_recipe_335 rfl (lv_at hl 2 rfl) ?_
                      refine lv_iload hx hb dX10_recipe_336 (lv_at hl 1 rfl) ?_
                      refine lv_iadd hx hb dX10_recipe_338 ?_
                      refine lv_topi (fun z_49 ez_49 => ?_)
                      refine va_iast hx hb hK hP hD hS 24 23 rfl rfl (in_i (by omega) (by omega)) dX10_recipe_339 (fun H locs hP hD hS => ?_)
                      have hP : va_P (dC, dI) vwCl (mw g h0 b (va_up (va_up (va_up (va_up (va_up (va_up (va_up (va_up (va_up i 0 x0_21) 20 (0 : Int32)) 21 nn) 22 x22_25) 23 x23_26) 24 x24_27) 25 x25_28) 36 x36_29) 38 (0 : Int32)) (va_up (va_up (va_up (va_up (va_up (va_up (va_up (va_up (va_up a 26 l26) 27 l27) 28 l28) 29 l29) 30 l30) 31 l31) 32 l32) 33 l33) 34 (upd (a 34) rr.toNatClampNeg z_49))) _ := hP
                      have hD : va_D _ (mw g h0 b (va_up (va_up (va_up (va_up (va_up (va_up (va_up (va_up (va_up i 0 x0_21) 20 (0 : Int32)) 21 nn) 22 x22_25) 23 x23_26) 24 x24_27) 25 x25_28) 36 x36_29) 38 (0 : Int32)) (va_up (va_up (va_up (va_up (va_up (va_up (va_up (va_up (va_up a 26 l26) 27 l27) 28 l28) 29 l29) 30 l30) 31 l31) 32 l32) 33 l33) 34 (upd (a 34) rr.toNatClampNeg z_49))) := hD
                      obtain ⟨f_50, ef_50⟩ : ∃ z, z = (upd (a 34) rr.toNatClampNeg z_49) := ⟨_, rfl⟩
                      rw [← ef_50] at hP hD
                      refine lv_aload_n hx hb dX10_recipe_340 rfl (lv_at hl 3 rfl) ?_
                      refine va_get (D := (dC, dI)) (ci := 10) (v := .ref (b 35)) (C := RX10) (T := TX10) (N := 51) hx hb hts inw_X10_recipe_10 hown hK hP 0 rfl rfl 35 (by decide) (hts (.fieldLink RX10 87 "VatHouseModel" "many" "[I") (by decide +kernel)) (fun _ h9 => h9) rfl dX10_recipe_341 ?_
                      refine lv_iload_n hx hb dX10_recipe_344 rfl (lv_at hl 4 rfl) ?_
                      refine lv_aload_n hx hb dX10_recipe_345 rfl (lv_at hl 3 rfl) ?_
                      refine va_get (D := (dC, dI)) (ci := 10) (v := .int x36_29) (C := RX10) (T := TX10) (N := 51) hx hb hts inw_X10_recipe_10 hown hK hP 0 rfl rfl 36 (by decide) (hts (.fieldLink RX10 249 "VatHouseModel" "nodes" "I") (by decide +kernel)) (fun _ h9 => h9) rfl dX10_recipe_346 ?_
                      refine va_iast hx hb hK hP hD hS 25 24 rfl rfl (in_i (by omega) (by omega)) dX10_recipe_349 (fun H locs hP hD hS => ?_)
                      have hP : va_P (dC, dI) vwCl (mw g h0 b (va_up (va_up (va_up (va_up (va_up (va_up (va_up (va_up (va_up i 0 x0_21) 20 (0 : Int32)) 21 nn) 22 x22_25) 23 x23_26) 24 x24_27) 25 x25_28) 36 x36_29) 38 (0 : Int32)) (va_up (va_up (va_up (va_up (va_up (va_up (va_up (va_up (va_up (va_up a 26 l26) 27 l27) 28 l28) 29 l29) 30 l30) 31 l31) 32 l32) 33 l33) 34 f_50) 35 (upd (a 35) rr.toNatClampNeg x36_29))) _ := hP
                      have hD : va_D _ (mw g h0 b (va_up (va_up (va_up (va_up (va_up (va_up (va_up (va_up (va_up i 0 x0_21) 20 (0 : Int32)) 21 nn) 22 x22_25) 23 x23_26) 24 x24_27) 25 x25_28) 36 x36_29) 38 (0 : Int32)) (va_up (va_up (va_up (va_up (va_up (va_up (va_up (va_up (va_up (va_up a 26 l26) 27 l27) 28 l28) 29 l29) 30 l30) 31 l31) 32 l32) 33 l33) 34 f_50) 35 (upd (a 35) rr.toNatClampNeg x36_29))) := hD
                      obtain ⟨f_51, ef_51⟩ : ∃ z, z = (upd (a 35) rr.toNatClampNeg x36_29) := ⟨_, rfl⟩
                      rw [← ef_51] at hP hD
                      refine lv_aload_n hx hb dX10_recipe_350 rfl (lv_at hl 3 rfl) ?_
                      refine lv_aload_n hx hb dX10_recipe_351 rfl (lv_at hl 3 rfl) ?_
                      refine va_get (D := (dC, dI)) (ci := 10) (v := .int x36_29) (C := RX10) (T := TX10) (N := 51) hx hb hts inw_X10_recipe_10 hown hK hP 0 rfl rfl 36 (by decide) (hts (.fieldLink RX10 249 "VatHouseModel" "nodes" "I") (by decide +kernel)) (fun _ h9 => h9) rfl dX10_recipe_352 ?_
                      refine va_put (D := (dC, dI)) (ci := 10) (v := .int x36_29) (ty := .int) (C := RX10) (T := TX10) (N := 51) hx hb hts inw_X10_recipe_10 tyX10 tyX10_ok nmX10 hown hK hP hD hS 0 rfl rfl 37 (by decide) (hts (.fieldLink RX10 284 "VatHouseModel" "latest" "I") (by decide +kernel)) (fun _ h9 => h9) rfl (by decide +kernel) rfl rfl (Nat.le_of_ble_eq_true rfl) dX10_recipe_355 (fun H locs hP hD hS => ?_)
                      have hP : va_P (dC, dI) vwCl (mw g h0 b (va_up (va_up (va_up (va_up (va_up (va_up (va_up (va_up (va_up (va_up i 0 x0_21) 20 (0 : Int32)) 21 nn) 22 x22_25) 23 x23_26) 24 x24_27) 25 x25_28) 36 x36_29) 37 x36_29) 38 (0 : Int32)) (va_up (va_up (va_up (va_up (va_up (va_up (va_up (va_up (va_up (va_up a 26 l26) 27 l27) 28 l28) 29 l29) 30 l30) 31 l31) 32 l32) 33 l33) 34 f_50) 35 f_51)) _ := hP
                      have hD : va_D _ (mw g h0 b (va_up (va_up (va_up (va_up (va_up (va_up (va_up (va_up (va_up (va_up i 0 x0_21) 20 (0 : Int32)) 21 nn) 22 x22_25) 23 x23_26) 24 x24_27) 25 x25_28) 36 x36_29) 37 x36_29) 38 (0 : Int32)) (va_up (va_up (va_up (va_up (va_up (va_up (va_up (va_up (va_up (va_up a 26 l26) 27 l27) 28 l28) 29 l29) 30 l30) 31 l31) 32 l32) 33 l33) 34 f_50) 35 f_51)) := hD
                      refine lv_iconst (v := 0) hx hb dX10_recipe_358 (by decide) ?_
                      exact M_i hx hb hr hlocks (x0_21, (0 : Int32), nn, x22_25, x23_26, x24_27, x25_28, x36_29, x36_29, (0 : Int32), l26, l27, l28, l29, l30, l31, l32, l33, f_50, f_51) hP hD hK hS ⟨⟨_, rfl⟩, ⟨⟨by decide, by rw [ef_50, ef_51]; exact BI.put hr8 hBI hPR_40.2.2.1 hPR_40.2.1 hcp hby hlkz (by rw [if_neg c_48]; exact ez_49) hrc⟩, Or.inr ⟨⟨c_1, c_6, c_11, c_16⟩, rfl, hz2_23.2, ln, r1, hnl, hln, hev1, by rw [h23, hrn], by rw [h24, hrn], (by rw [show x23_26 = 0 from rc_z hres_42 (by omega)])⟩⟩⟩ (Nat.le_of_ble_eq_true rfl) (Nat.le_of_ble_eq_true rfl) dX10_recipe_359
                    · have nc_48 := eq_i c_48
                      have lc_48 : ((-1) : Int32).toInt = -1 := by decide
                      refine lv_bipush (v := (-2)) hx hb dX10_recipe_330 (by decide) ?_
                      refine lv_goto (tgt := 339) hx hb dX10_recipe_332 (by decide) ?_
                      refine va_iast hx hb hK hP hD hS 24 23 rfl rfl (in_i (by omega) (by omega)) dX10_recipe_339 (fun H locs hP hD hS => ?_)
                      have hP : va_P (dC, dI) vwCl (mw g h0 b (va_up (va_up (va_up (va_up (va_up (va_up (va_up (va_up (va_up i 0 x0_21) 20 (0 : Int32)) 21 nn) 22 x22_25) 23 x23_26) 24 x24_27) 25 x25_28) 36 x36_29) 38 (0 : Int32)) (va_up (va_up (va_up (va_up (va_up (va_up (va_up (va_up (va_up a 26 l26) 27 l27) 28 l28) 29 l29) 30 l30) 31 l31) 32 l32) 33 l33) 34 (upd (a 34) rr.toNatClampNeg ((-2) : Int32)))) _ := hP
                      have hD : va_D _ (mw g h0 b (va_up (va_up (va_up (va_up (va_up (va_up (va_up (va_up (va_up i 0 x0_21) 20 (0 : Int32)) 21 nn) 22 x22_25) 23 x23_26) 24 x24_27) 25 x25_28) 36 x36_29) 38 (0 : Int32)) (va_up (va_up (va_up (va_up (va_up (va_up (va_up (va_up (va_up a 26 l26) 27 l27) 28 l28) 29 l29) 30 l30) 31 l31) 32 l32) 33 l33) 34 (upd (a 34) rr.toNatClampNeg ((-2) : Int32)))) := hD
                      obtain ⟨f_52, ef_52⟩ : ∃ z, z = (upd (a 34) rr.toNatClampNeg ((-2) : Int32)) := ⟨_, rfl⟩
                      rw [← ef_52] at hP hD
                      refine lv_aload_n hx hb dX10_recipe_340 rfl (lv_at hl 3 rfl) ?_
                      refine va_get (D := (dC, dI)) (ci := 10) (v := .ref (b 35)) (C := RX10) (T := TX10) (N := 51) hx hb hts inw_X10_recipe_10 hown hK hP 0 rfl rfl 35 (by decide) (hts (.fieldLink RX10 87 "VatHouseModel" "many" "[I") (by decide +kernel)) (fun _ h9 => h9) rfl dX10_recipe_341 ?_
                      refine lv_iload_n hx hb dX10_recipe_344 rfl (lv_at hl 4 rfl) ?_
                      refine lv_aload_n hx hb dX10_recipe_345 rfl (lv_at hl 3 rfl) ?_
                      refine va_get (D := (dC, dI)) (ci := 10) (v := .int x36_29) (C := RX10) (T := TX10) (N := 51) hx hb hts inw_X10_recipe_10 hown hK hP 0 rfl rfl 36 (by decide) (hts (.fieldLink RX10 249 "VatHouseModel" "nodes" "I") (by decide +kernel)) (fun _ h9 => h9) rfl dX10_recipe_346 ?_
                      refine va_iast hx hb hK hP hD hS 25 24 rfl rfl (in_i (by omega) (by omega)) dX10_recipe_349 (fun H locs hP hD hS => ?_)
                      have hP : va_P (dC, dI) vwCl (mw g h0 b (va_up (va_up (va_up (va_up (va_up (va_up (va_up (va_up (va_up i 0 x0_21) 20 (0 : Int32)) 21 nn) 22 x22_25) 23 x23_26) 24 x24_27) 25 x25_28) 36 x36_29) 38 (0 : Int32)) (va_up (va_up (va_up (va_up (va_up (va_up (va_up (va_up (va_up (va_up a 26 l26) 27 l27) 28 l28) 29 l29) 30 l30) 31 l31) 32 l32) 33 l33) 34 f_52) 35 (upd (a 35) rr.toNatClampNeg x36_29))) _ := hP
                      have hD : va_D _ (mw g h0 b (va_up (va_up (va_up (va_up (va_up (va_up (va_up (va_up (va_up i 0 x0_21) 20 (0 : Int32)) 21 nn) 22 x22_25) 23 x23_26) 24 x24_27) 25 x25_28) 36 x36_29) 38 (0 : Int32)) (va_up (va_up (va_up (va_up (va_up (va_up (va_up (va_up (va_up (va_up a 26 l26) 27 l27) 28 l28) 29 l29) 30 l30) 31 l31) 32 l32) 33 l33) 34 f_52) 35 (upd (a 35) rr.toNatClampNeg x36_29))) := hD
                      obtain ⟨f_53, ef_53⟩ : ∃ z, z = (upd (a 35) rr.toNatClampNeg x36_29) := ⟨_, rfl⟩
                      rw [← ef_53] at hP hD
                      refine lv_aload_n hx hb dX10_recipe_350 rfl (lv_at hl 3 rfl) ?_
                      refine lv_aload_n hx hb dX10_recipe_351 rfl (lv_at hl 3 rfl) ?_
                      refine va_get (D := (dC, dI)) (ci := 10) (v := .int x36_29) (C := RX10) (T := TX10) (N := 51) hx hb hts inw_X10_recipe_10 hown hK hP 0 rfl rfl 36 (by decide) (hts (.fieldLink RX10 249 "VatHouseModel" "nodes" "I") (by decide +kernel)) (fun _ h9 => h9) rfl dX10_recipe_352 ?_
                      refine va_put (D := (dC, dI)) (ci := 10) (v := .int x36_29) (ty := .int) (C := RX10) (T := TX10) (N := 51) hx hb hts inw_X10_recipe_10 tyX10 tyX10_ok nmX10 hown hK hP hD hS 0 rfl rfl 37 (by decide) (hts (.fieldLink RX10 284 "VatHouseModel" "latest" "I") (by decide +kernel)) (fun _ h9 => h9) rfl (by decide +kernel) rfl rfl (Nat.le_of_ble_eq_true rfl) dX10_recipe_355 (fun H locs hP hD hS => ?_)
                      have hP : va_P (dC, dI) vwCl (mw g h0 b (va_up (va_up (va_up (va_up (va_up (va_up (va_up (va_up (va_up (va_up i 0 x0_21) 20 (0 : Int32)) 21 nn) 22 x22_25) 23 x23_26) 24 x24_27) 25 x25_28) 36 x36_29) 37 x36_29) 38 (0 : Int32)) (va_up (va_up (va_up (va_up (va_up (va_up (va_up (va_up (va_up (va_up a 26 l26) 27 l27) 28 l28) 29 l29) 30 l30) 31 l31) 32 l32) 33 l33) 34 f_52) 35 f_53)) _ := hP
                      have hD : va_D _ (mw g h0 b (va_up (va_up (va_up (va_up (va_up (va_up (va_up (va_up (va_up (va_up i 0 x0_21) 20 (0 : Int32)) 21 nn) 22 x22_25) 23 x23_26) 24 x24_27) 25 x25_28) 36 x36_29) 37 x36_29) 38 (0 : Int32)) (va_up (va_up (va_up (va_up (va_up (va_up (va_up (va_up (va_up (va_up a 26 l26) 27 l27) 28 l28) 29 l29) 30 l30) 31 l31) 32 l32) 33 l33) 34 f_52) 35 f_53)) := hD
                      refine lv_iconst (v := 0) hx hb dX10_recipe_358 (by decide) ?_
                      exact M_i hx hb hr hlocks (x0_21, (0 : Int32), nn, x22_25, x23_26, x24_27, x25_28, x36_29, x36_29, (0 : Int32), l26, l27, l28, l29, l30, l31, l32, l33, f_52, f_53) hP hD hK hS ⟨⟨_, rfl⟩, ⟨⟨by decide, by rw [ef_52, ef_53]; exact BI.put hr8 hBI hPR_40.2.2.1 hPR_40.2.1 hcp hby hlkz (by rw [if_pos c_48]) hrc⟩, Or.inr ⟨⟨c_1, c_6, c_11, c_16⟩, rfl, hz2_23.2, ln, r1, hnl, hln, hev1, by rw [h23, hrn], by rw [h24, hrn], (by rw [show x23_26 = 0 from rc_z hres_42 (by omega)])⟩⟩⟩ (Nat.le_of_ble_eq_true rfl) (Nat.le_of_ble_eq_true rfl) dX10_recipe_359
                  · have nc_47 := nle_i c_47
                    have hd3 : (d : Int) < x36_29.toInt := by omega
                    have hkxc : kx.toNatClampNeg = 2400 + d := by have h9 := clamp_i (x := kx) (by omega); omega
                    have hd300 : d < 300 := by omega
                    have hkxv : vp_in kx 2700 := in_i (by omega) (by omega)
                    refine lv_aload_n hx hb dX10_recipe_124 rfl (lv_at hl 3 rfl) ?_
                    refine va_get (D := (dC, dI)) (ci := 10) (v := .ref (b 26)) (C := RX10) (T := TX10) (N := 51) hx hb hts inw_X10_recipe_10 hown hK hP 0 rfl rfl 26 (by decide) (hts (.fieldLink RX10 60 "VatHouseModel" "kind" "[I") (by decide +kernel)) (fun _ h9 => h9) rfl dX10_recipe_125 ?_
                    refine lv_iload hx hb dX10_recipe_128 (lv_at hl 0 rfl) ?_
                    refine lv_iload hx hb dX10_recipe_130 (lv_at hl 1 rfl) ?_
                    refine lv_iadd hx hb dX10_recipe_132 ?_
                    refine lv_topi (fun z_54 ez_54 => ?_)
                    refine lv_aload_n hx hb dX10_recipe_133 rfl (lv_at hl 3 rfl) ?_
                    refine va_get (D := (dC, dI)) (ci := 10) (v := .ref (b 26)) (C := RX10) (T := TX10) (N := 51) hx hb hts inw_X10_recipe_10 hown hK hP 0 rfl rfl 26 (by decide) (hts (.fieldLink RX10 60 "VatHouseModel" "kind" "[I") (by decide +kernel)) (fun _ h9 => h9) rfl dX10_recipe_134 ?_
                    refine lv_iload hx hb dX10_recipe_137 (lv_at hl 0 rfl) ?_
                    refine va_iald hx hb hK hP 16 15 rfl rfl hkxv dX10_recipe_139 ?_
                    refine lv_topi (fun z_55 ez_55 => ?_)
                    have ez_55 : z_55 = l26 kx.toNatClampNeg := ez_55
                    refine va_iast hx hb hK hP hD hS 16 15 rfl rfl (rc_in ez_54 hkxI hby hr8 hd300).2.2 dX10_recipe_140 (fun H locs hP hD hS => ?_)
                    have hP : va_P (dC, dI) vwCl (mw g h0 b (va_up (va_up (va_up (va_up (va_up (va_up (va_up (va_up (va_up i 0 x0_21) 20 (0 : Int32)) 21 nn) 22 x22_25) 23 x23_26) 24 x24_27) 25 x25_28) 36 x36_29) 38 (0 : Int32)) (va_up (va_up (va_up (va_up (va_up (va_up (va_up (va_up a 26 (upd l26 z_54.toNatClampNeg z_55)) 27 l27) 28 l28) 29 l29) 30 l30) 31 l31) 32 l32) 33 l33)) _ := hP
                    have hD : va_D _ (mw g h0 b (va_up (va_up (va_up (va_up (va_up (va_up (va_up (va_up (va_up i 0 x0_21) 20 (0 : Int32)) 21 nn) 22 x22_25) 23 x23_26) 24 x24_27) 25 x25_28) 36 x36_29) 38 (0 : Int32)) (va_up (va_up (va_up (va_up (va_up (va_up (va_up (va_up a 26 (upd l26 z_54.toNatClampNeg z_55)) 27 l27) 28 l28) 29 l29) 30 l30) 31 l31) 32 l32) 33 l33)) := hD
                    obtain ⟨f_56, ef_56⟩ : ∃ z, z = (upd l26 z_54.toNatClampNeg z_55) := ⟨_, rfl⟩
                    rw [← ef_56] at hP hD
                    refine lv_aload_n hx hb dX10_recipe_141 rfl (lv_at hl 3 rfl) ?_
                    refine va_get (D := (dC, dI)) (ci := 10) (v := .ref (b 27)) (C := RX10) (T := TX10) (N := 51) hx hb hts inw_X10_recipe_10 hown hK hP 0 rfl rfl 27 (by decide) (hts (.fieldLink RX10 63 "VatHouseModel" "one" "[I") (by decide +kernel)) (fun _ h9 => h9) rfl dX10_recipe_142 ?_
                    refine lv_iload hx hb dX10_recipe_145 (lv_at hl 0 rfl) ?_
                    refine lv_iload hx hb dX10_recipe_147 (lv_at hl 1 rfl) ?_
                    refine lv_iadd hx hb dX10_recipe_149 ?_
                    refine lv_topi (fun z_57 ez_57 => ?_)
                    refine lv_aload_n hx hb dX10_recipe_150 rfl (lv_at hl 3 rfl) ?_
                    refine va_get (D := (dC, dI)) (ci := 10) (v := .ref (b 27)) (C := RX10) (T := TX10) (N := 51) hx hb hts inw_X10_recipe_10 hown hK hP 0 rfl rfl 27 (by decide) (hts (.fieldLink RX10 63 "VatHouseModel" "one" "[I") (by decide +kernel)) (fun _ h9 => h9) rfl dX10_recipe_151 ?_
                    refine lv_iload hx hb dX10_recipe_154 (lv_at hl 0 rfl) ?_
                    refine va_iald hx hb hK hP 17 16 rfl rfl hkxv dX10_recipe_156 ?_
                    refine lv_topi (fun z_58 ez_58 => ?_)
                    have ez_58 : z_58 = l27 kx.toNatClampNeg := ez_58
                    refine va_iast hx hb hK hP hD hS 17 16 rfl rfl (rc_in ez_57 hkxI hby hr8 hd300).2.2 dX10_recipe_157 (fun H locs hP hD hS => ?_)
                    have hP : va_P (dC, dI) vwCl (mw g h0 b (va_up (va_up (va_up (va_up (va_up (va_up (va_up (va_up (va_up i 0 x0_21) 20 (0 : Int32)) 21 nn) 22 x22_25) 23 x23_26) 24 x24_27) 25 x25_28) 36 x36_29) 38 (0 : Int32)) (va_up (va_up (va_up (va_up (va_up (va_up (va_up (va_up a 26 f_56) 27 (upd l27 z_57.toNatClampNeg z_58)) 28 l28) 29 l29) 30 l30) 31 l31) 32 l32) 33 l33)) _ := hP
                    have hD : va_D _ (mw g h0 b (va_up (va_up (va_up (va_up (va_up (va_up (va_up (va_up (va_up i 0 x0_21) 20 (0 : Int32)) 21 nn) 22 x22_25) 23 x23_26) 24 x24_27) 25 x25_28) 36 x36_29) 38 (0 : Int32)) (va_up (va_up (va_up (va_up (va_up (va_up (va_up (va_up a 26 f_56) 27 (upd l27 z_57.toNatClampNeg z_58)) 28 l28) 29 l29) 30 l30) 31 l31) 32 l32) 33 l33)) := hD
                    obtain ⟨f_59, ef_59⟩ : ∃ z, z = (upd l27 z_57.toNatClampNeg z_58) := ⟨_, rfl⟩
                    rw [← ef_59] at hP hD
                    refine lv_aload_n hx hb dX10_recipe_158 rfl (lv_at hl 3 rfl) ?_
                    refine va_get (D := (dC, dI)) (ci := 10) (v := .ref (b 28)) (C := RX10) (T := TX10) (N := 51) hx hb hts inw_X10_recipe_10 hown hK hP 0 rfl rfl 28 (by decide) (hts (.fieldLink RX10 66 "VatHouseModel" "two" "[I") (by decide +kernel)) (fun _ h9 => h9) rfl dX10_recipe_159 ?_
                    refine lv_iload hx hb dX10_recipe_162 (lv_at hl 0 rfl) ?_
                    refine lv_iload hx hb dX10_recipe_164 (lv_at hl 1 rfl) ?_
                    refine lv_iadd hx hb dX10_recipe_166 ?_
                    refine lv_topi (fun z_60 ez_60 => ?_)
                    refine lv_aload_n hx hb dX10_recipe_167 rfl (lv_at hl 3 rfl) ?_
                    refine va_get (D := (dC, dI)) (ci := 10) (v := .ref (b 28)) (C := RX10) (T := TX10) (N := 51) hx hb hts inw_X10_recipe_10 hown hK hP 0 rfl rfl 28 (by decide) (hts (.fieldLink RX10 66 "VatHouseModel" "two" "[I") (by decide +kernel)) (fun _ h9 => h9) rfl dX10_recipe_168 ?_
                    refine lv_iload hx hb dX10_recipe_171 (lv_at hl 0 rfl) ?_
                    refine va_iald hx hb hK hP 18 17 rfl rfl hkxv dX10_recipe_173 ?_
                    refine lv_topi (fun z_61 ez_61 => ?_)
                    have ez_61 : z_61 = l28 kx.toNatClampNeg := ez_61
                    refine va_iast hx hb hK hP hD hS 18 17 rfl rfl (rc_in ez_60 hkxI hby hr8 hd300).2.2 dX10_recipe_174 (fun H locs hP hD hS => ?_)
                    have hP : va_P (dC, dI) vwCl (mw g h0 b (va_up (va_up (va_up (va_up (va_up (va_up (va_up (va_up (va_up i 0 x0_21) 20 (0 : Int32)) 21 nn) 22 x22_25) 23 x23_26) 24 x24_27) 25 x25_28) 36 x36_29) 38 (0 : Int32)) (va_up (va_up (va_up (va_up (va_up (va_up (va_up (va_up a 26 f_56) 27 f_59) 28 (upd l28 z_60.toNatClampNeg z_61)) 29 l29) 30 l30) 31 l31) 32 l32) 33 l33)) _ := hP
                    have hD : va_D _ (mw g h0 b (va_up (va_up (va_up (va_up (va_up (va_up (va_up (va_up (va_up i 0 x0_21) 20 (0 : Int32)) 21 nn) 22 x22_25) 23 x23_26) 24 x24_27) 25 x25_28) 36 x36_29) 38 (0 : Int32)) (va_up (va_up (va_up (va_up (va_up (va_up (va_up (va_up a 26 f_56) 27 f_59) 28 (upd l28 z_60.toNatClampNeg z_61)) 29 l29) 30 l30) 31 l31) 32 l32) 33 l33)) := hD
                    obtain ⟨f_62, ef_62⟩ : ∃ z, z = (upd l28 z_60.toNatClampNeg z_61) := ⟨_, rfl⟩
                    rw [← ef_62] at hP hD
                    refine lv_aload_n hx hb dX10_recipe_175 rfl (lv_at hl 3 rfl) ?_
                    refine va_get (D := (dC, dI)) (ci := 10) (v := .ref (b 29)) (C := RX10) (T := TX10) (N := 51) hx hb hts inw_X10_recipe_10 hown hK hP 0 rfl rfl 29 (by decide) (hts (.fieldLink RX10 69 "VatHouseModel" "look" "[I") (by decide +kernel)) (fun _ h9 => h9) rfl dX10_recipe_176 ?_
                    refine lv_iload hx hb dX10_recipe_179 (lv_at hl 0 rfl) ?_
                    refine lv_iload hx hb dX10_recipe_181 (lv_at hl 1 rfl) ?_
                    refine lv_iadd hx hb dX10_recipe_183 ?_
                    refine lv_topi (fun z_63 ez_63 => ?_)
                    refine lv_aload_n hx hb dX10_recipe_184 rfl (lv_at hl 3 rfl) ?_
                    refine va_get (D := (dC, dI)) (ci := 10) (v := .ref (b 29)) (C := RX10) (T := TX10) (N := 51) hx hb hts inw_X10_recipe_10 hown hK hP 0 rfl rfl 29 (by decide) (hts (.fieldLink RX10 69 "VatHouseModel" "look" "[I") (by decide +kernel)) (fun _ h9 => h9) rfl dX10_recipe_185 ?_
                    refine lv_iload hx hb dX10_recipe_188 (lv_at hl 0 rfl) ?_
                    refine va_iald hx hb hK hP 19 18 rfl rfl hkxv dX10_recipe_190 ?_
                    refine lv_topi (fun z_64 ez_64 => ?_)
                    have ez_64 : z_64 = l29 kx.toNatClampNeg := ez_64
                    refine va_iast hx hb hK hP hD hS 19 18 rfl rfl (rc_in ez_63 hkxI hby hr8 hd300).2.2 dX10_recipe_191 (fun H locs hP hD hS => ?_)
                    have hP : va_P (dC, dI) vwCl (mw g h0 b (va_up (va_up (va_up (va_up (va_up (va_up (va_up (va_up (va_up i 0 x0_21) 20 (0 : Int32)) 21 nn) 22 x22_25) 23 x23_26) 24 x24_27) 25 x25_28) 36 x36_29) 38 (0 : Int32)) (va_up (va_up (va_up (va_up (va_up (va_up (va_up (va_up a 26 f_56) 27 f_59) 28 f_62) 29 (upd l29 z_63.toNatClampNeg z_64)) 30 l30) 31 l31) 32 l32) 33 l33)) _ := hP
                    have hD : va_D _ (mw g h0 b (va_up (va_up (va_up (va_up (va_up (va_up (va_up (va_up (va_up i 0 x0_21) 20 (0 : Int32)) 21 nn) 22 x22_25) 23 x23_26) 24 x24_27) 25 x25_28) 36 x36_29) 38 (0 : Int32)) (va_up (va_up (va_up (va_up (va_up (va_up (va_up (va_up a 26 f_56) 27 f_59) 28 f_62) 29 (upd l29 z_63.toNatClampNeg z_64)) 30 l30) 31 l31) 32 l32) 33 l33)) := hD
                    obtain ⟨f_65, ef_65⟩ : ∃ z, z = (upd l29 z_63.toNatClampNeg z_64) := ⟨_, rfl⟩
                    rw [← ef_65] at hP hD
                    refine lv_aload_n hx hb dX10_recipe_192 rfl (lv_at hl 3 rfl) ?_
                    refine va_get (D := (dC, dI)) (ci := 10) (v := .ref (b 30)) (C := RX10) (T := TX10) (N := 51) hx hb hts inw_X10_recipe_10 hown hK hP 0 rfl rfl 30 (by decide) (hts (.fieldLink RX10 72 "VatHouseModel" "sign" "[I") (by decide +kernel)) (fun _ h9 => h9) rfl dX10_recipe_193 ?_
                    refine lv_iload hx hb dX10_recipe_196 (lv_at hl 0 rfl) ?_
                    refine lv_iload hx hb dX10_recipe_198 (lv_at hl 1 rfl) ?_
                    refine lv_iadd hx hb dX10_recipe_200 ?_
                    refine lv_topi (fun z_66 ez_66 => ?_)
                    refine lv_aload_n hx hb dX10_recipe_201 rfl (lv_at hl 3 rfl) ?_
                    refine va_get (D := (dC, dI)) (ci := 10) (v := .ref (b 30)) (C := RX10) (T := TX10) (N := 51) hx hb hts inw_X10_recipe_10 hown hK hP 0 rfl rfl 30 (by decide) (hts (.fieldLink RX10 72 "VatHouseModel" "sign" "[I") (by decide +kernel)) (fun _ h9 => h9) rfl dX10_recipe_202 ?_
                    refine lv_iload hx hb dX10_recipe_205 (lv_at hl 0 rfl) ?_
                    refine va_iald hx hb hK hP 20 19 rfl rfl hkxv dX10_recipe_207 ?_
                    refine lv_topi (fun z_67 ez_67 => ?_)
                    have ez_67 : z_67 = l30 kx.toNatClampNeg := ez_67
                    refine va_iast hx hb hK hP hD hS 20 19 rfl rfl (rc_in ez_66 hkxI hby hr8 hd300).2.2 dX10_recipe_208 (fun H locs hP hD hS => ?_)
                    have hP : va_P (dC, dI) vwCl (mw g h0 b (va_up (va_up (va_up (va_up (va_up (va_up (va_up (va_up (va_up i 0 x0_21) 20 (0 : Int32)) 21 nn) 22 x22_25) 23 x23_26) 24 x24_27) 25 x25_28) 36 x36_29) 38 (0 : Int32)) (va_up (va_up (va_up (va_up (va_up (va_up (va_up (va_up a 26 f_56) 27 f_59) 28 f_62) 29 f_65) 30 (upd l30 z_66.toNatClampNeg z_67)) 31 l31) 32 l32) 33 l33)) _ := hP
                    have hD : va_D _ (mw g h0 b (va_up (va_up (va_up (va_up (va_up (va_up (va_up (va_up (va_up i 0 x0_21) 20 (0 : Int32)) 21 nn) 22 x22_25) 23 x23_26) 24 x24_27) 25 x25_28) 36 x36_29) 38 (0 : Int32)) (va_up (va_up (va_up (va_up (va_up (va_up (va_up (va_up a 26 f_56) 27 f_59) 28 f_62) 29 f_65) 30 (upd l30 z_66.toNatClampNeg z_67)) 31 l31) 32 l32) 33 l33)) := hD
                    obtain ⟨f_68, ef_68⟩ : ∃ z, z = (upd l30 z_66.toNatClampNeg z_67) := ⟨_, rfl⟩
                    rw [← ef_68] at hP hD
                    refine lv_aload_n hx hb dX10_recipe_209 rfl (lv_at hl 3 rfl) ?_
                    refine va_get (D := (dC, dI)) (ci := 10) (v := .ref (b 31)) (C := RX10) (T := TX10) (N := 51) hx hb hts inw_X10_recipe_10 hown hK hP 0 rfl rfl 31 (by decide) (hts (.fieldLink RX10 75 "VatHouseModel" "inner" "[I") (by decide +kernel)) (fun _ h9 => h9) rfl dX10_recipe_210 ?_
                    refine lv_iload hx hb dX10_recipe_213 (lv_at hl 0 rfl) ?_
                    refine lv_iload hx hb dX10_recipe_215 (lv_at hl 1 rfl) ?_
                    refine lv_iadd hx hb dX10_recipe_217 ?_
                    refine lv_topi (fun z_69 ez_69 => ?_)
                    refine lv_aload_n hx hb dX10_recipe_218 rfl (lv_at hl 3 rfl) ?_
                    refine va_get (D := (dC, dI)) (ci := 10) (v := .ref (b 31)) (C := RX10) (T := TX10) (N := 51) hx hb hts inw_X10_recipe_10 hown hK hP 0 rfl rfl 31 (by decide) (hts (.fieldLink RX10 75 "VatHouseModel" "inner" "[I") (by decide +kernel)) (fun _ h9 => h9) rfl dX10_recipe_219 ?_
                    refine lv_iload hx hb dX10_recipe_222 (lv_at hl 0 rfl) ?_
                    refine va_iald hx hb hK hP 21 20 rfl rfl hkxv dX10_recipe_224 ?_
                    refine lv_topi (fun z_70 ez_70 => ?_)
                    have ez_70 : z_70 = l31 kx.toNatClampNeg := ez_70
                    refine lv_iconst (v := (-1)) hx hb dX10_recipe_225 (by decide) ?_
                    refine lv_icmp_ne (tgt := 233) hx hb dX10_recipe_226 (by decide) (fun c_71 => ?_) (fun c_71 => ?_)
                    · have nc_71 := ne_i c_71
                      have lc_71 : ((-1) : Int32).toInt = -1 := by decide
                      refine lv_aload_n hx hb dX10_recipe_233 rfl (lv_at hl 3 rfl) ?_
                      refine va_get (D := (dC, dI)) (ci := 10) (v := .ref (b 31)) (C := RX10) (T := TX10) (N := 51) hx hb hts inw_X10_recipe_10 hown hK hP 0 rfl rfl 31 (by decide) (hts (.fieldLink RX10 75 "VatHouseModel" "inner" "[I") (by decide +kernel)) (fun _ h9 => h9) rfl dX10_recipe_234 ?_
                      refine lv_iload hx hb dX10_recipe_237 (lv_at hl 0 rfl) ?_
                      refine va_iald hx hb hK hP 21 20 rfl rfl hkxv dX10_recipe_239 ?_
                      refine lv_topi (fun z_72 ez_72 => ?_)
                      have ez_72 : z_72 = l31 kx.toNatClampNeg := ez_72
                      refine lv_iload hx hb dX10_recipe_240 (lv_at hl 1 rfl) ?_
                      refine lv_iadd hx hb dX10_recipe_242 ?_
                      refine lv_topi (fun z_73 ez_73 => ?_)
                      refine va_iast hx hb hK hP hD hS 21 20 rfl rfl (rc_in ez_69 hkxI hby hr8 hd300).2.2 dX10_recipe_243 (fun H locs hP hD hS => ?_)
                      have hP : va_P (dC, dI) vwCl (mw g h0 b (va_up (va_up (va_up (va_up (va_up (va_up (va_up (va_up (va_up i 0 x0_21) 20 (0 : Int32)) 21 nn) 22 x22_25) 23 x23_26) 24 x24_27) 25 x25_28) 36 x36_29) 38 (0 : Int32)) (va_up (va_up (va_up (va_up (va_up (va_up (va_up (va_up a 26 f_56) 27 f_59) 28 f_62) 29 f_65) 30 f_68) 31 (upd l31 z_69.toNatClampNeg z_73)) 32 l32) 33 l33)) _ := hP
                      have hD : va_D _ (mw g h0 b (va_up (va_up (va_up (va_up (va_up (va_up (va_up (va_up (va_up i 0 x0_21) 20 (0 : Int32)) 21 nn) 22 x22_25) 23 x23_26) 24 x24_27) 25 x25_28) 36 x36_29) 38 (0 : Int32)) (va_up (va_up (va_up (va_up (va_up (va_up (va_up (va_up a 26 f_56) 27 f_59) 28 f_62) 29 f_65) 30 f_68) 31 (upd l31 z_69.toNatClampNeg z_73)) 32 l32) 33 l33)) := hD
                      obtain ⟨f_74, ef_74⟩ : ∃ z, z = (upd l31 z_69.toNatClampNeg z_73) := ⟨_, rfl⟩
                      rw [← ef_74] at hP hD
                      refine lv_aload_n hx hb dX10_recipe_244 rfl (lv_at hl 3 rfl) ?_
                      refine va_get (D := (dC, dI)) (ci := 10) (v := .ref (b 32)) (C := RX10) (T := TX10) (N := 51) hx hb hts inw_X10_recipe_10 hown hK hP 0 rfl rfl 32 (by decide) (hts (.fieldLink RX10 78 "VatHouseModel" "other" "[I") (by decide +kernel)) (fun _ h9 => h9) rfl dX10_recipe_245 ?_
                      refine lv_iload hx hb dX10_recipe_248 (lv_at hl 0 rfl) ?_
                      refine lv_iload hx hb dX10_recipe_250 (lv_at hl 1 rfl) ?_
                      refine lv_iadd hx hb dX10_recipe_252 ?_
                      refine lv_topi (fun z_75 ez_75 => ?_)
                      refine lv_aload_n hx hb dX10_recipe_253 rfl (lv_at hl 3 rfl) ?_
                      refine va_get (D := (dC, dI)) (ci := 10) (v := .ref (b 32)) (C := RX10) (T := TX10) (N := 51) hx hb hts inw_X10_recipe_10 hown hK hP 0 rfl rfl 32 (by decide) (hts (.fieldLink RX10 78 "VatHouseModel" "other" "[I") (by decide +kernel)) (fun _ h9 => h9) rfl dX10_recipe_254 ?_
                      refine lv_iload hx hb dX10_recipe_257 (lv_at hl 0 rfl) ?_
                      refine va_iald hx hb hK hP 22 21 rfl rfl hkxv dX10_recipe_259 ?_
                      refine lv_topi (fun z_76 ez_76 => ?_)
                      have ez_76 : z_76 = l32 kx.toNatClampNeg := ez_76
                      refine lv_iconst (v := (-1)) hx hb dX10_recipe_260 (by decide) ?_
                      refine lv_icmp_ne (tgt := 268) hx hb dX10_recipe_261 (by decide) (fun c_77 => ?_) (fun c_77 => ?_)
                      · have nc_77 := ne_i c_77
                        have lc_77 : ((-1) : Int32).toInt = -1 := by decide
                        refine lv_aload_n hx hb dX10_recipe_268 rfl (lv_at hl 3 rfl) ?_
                        refine va_get (D := (dC, dI)) (ci := 10) (v := .ref (b 32)) (C := RX10) (T := TX10) (N := 51) hx hb hts inw_X10_recipe_10 hown hK hP 0 rfl rfl 32 (by decide) (hts (.fieldLink RX10 78 "VatHouseModel" "other" "[I") (by decide +kernel)) (fun _ h9 => h9) rfl dX10_recipe_269 ?_
                        refine lv_iload hx hb dX10_recipe_272 (lv_at hl 0 rfl) ?_
                        refine va_iald hx hb hK hP 22 21 rfl rfl hkxv dX10_recipe_274 ?_
                        refine lv_topi (fun z_78 ez_78 => ?_)
                        have ez_78 : z_78 = l32 kx.toNatClampNeg := ez_78
                        refine lv_iload hx hb dX10_recipe_275 (lv_at hl 1 rfl) ?_
                        refine lv_iadd hx hb dX10_recipe_277 ?_
                        refine lv_topi (fun z_79 ez_79 => ?_)
                        refine va_iast hx hb hK hP hD hS 22 21 rfl rfl (rc_in ez_75 hkxI hby hr8 hd300).2.2 dX10_recipe_278 (fun H locs hP hD hS => ?_)
                        have hP : va_P (dC, dI) vwCl (mw g h0 b (va_up (va_up (va_up (va_up (va_up (va_up (va_up (va_up (va_up i 0 x0_21) 20 (0 : Int32)) 21 nn) 22 x22_25) 23 x23_26) 24 x24_27) 25 x25_28) 36 x36_29) 38 (0 : Int32)) (va_up (va_up (va_up (va_up (va_up (va_up (va_up (va_up a 26 f_56) 27 f_59) 28 f_62) 29 f_65) 30 f_68) 31 f_74) 32 (upd l32 z_75.toNatClampNeg z_79)) 33 l33)) _ := hP
                        have hD : va_D _ (mw g h0 b (va_up (va_up (va_up (va_up (va_up (va_up (va_up (va_up (va_up i 0 x0_21) 20 (0 : Int32)) 21 nn) 22 x22_25) 23 x23_26) 24 x24_27) 25 x25_28) 36 x36_29) 38 (0 : Int32)) (va_up (va_up (va_up (va_up (va_up (va_up (va_up (va_up a 26 f_56) 27 f_59) 28 f_62) 29 f_65) 30 f_68) 31 f_74) 32 (upd l32 z_75.toNatClampNeg z_79)) 33 l33)) := hD
                        obtain ⟨f_80, ef_80⟩ : ∃ z, z = (upd l32 z_75.toNatClampNeg z_79) := ⟨_, rfl⟩
                        rw [← ef_80] at hP hD
                        refine lv_aload_n hx hb dX10_recipe_279 rfl (lv_at hl 3 rfl) ?_
                        refine va_get (D := (dC, dI)) (ci := 10) (v := .ref (b 33)) (C := RX10) (T := TX10) (N := 51) hx hb hts inw_X10_recipe_10 hown hK hP 0 rfl rfl 33 (by decide) (hts (.fieldLink RX10 81 "VatHouseModel" "next" "[I") (by decide +kernel)) (fun _ h9 => h9) rfl dX10_recipe_280 ?_
                        refine lv_iload hx hb dX10_recipe_283 (lv_at hl 0 rfl) ?_
                        refine lv_iload hx hb dX10_recipe_285 (lv_at hl 1 rfl) ?_
                        refine lv_iadd hx hb dX10_recipe_287 ?_
                        refine lv_topi (fun z_81 ez_81 => ?_)
                        refine lv_aload_n hx hb dX10_recipe_288 rfl (lv_at hl 3 rfl) ?_
                        refine va_get (D := (dC, dI)) (ci := 10) (v := .ref (b 33)) (C := RX10) (T := TX10) (N := 51) hx hb hts inw_X10_recipe_10 hown hK hP 0 rfl rfl 33 (by decide) (hts (.fieldLink RX10 81 "VatHouseModel" "next" "[I") (by decide +kernel)) (fun _ h9 => h9) rfl dX10_recipe_289 ?_
                        refine lv_iload hx hb dX10_recipe_292 (lv_at hl 0 rfl) ?_
                        refine va_iald hx hb hK hP 23 22 rfl rfl hkxv dX10_recipe_294 ?_
                        refine lv_topi (fun z_82 ez_82 => ?_)
                        have ez_82 : z_82 = l33 kx.toNatClampNeg := ez_82
                        refine lv_iconst (v := (-1)) hx hb dX10_recipe_295 (by decide) ?_
                        refine lv_icmp_ne (tgt := 303) hx hb dX10_recipe_296 (by decide) (fun c_83 => ?_) (fun c_83 => ?_)
                        · have nc_83 := ne_i c_83
                          have lc_83 : ((-1) : Int32).toInt = -1 := by decide
                          refine lv_aload_n hx hb dX10_recipe_303 rfl (lv_at hl 3 rfl) ?_
                          refine va_get (D := (dC, dI)) (ci := 10) (v := .ref (b 33)) (C := RX10) (T := TX10) (N := 51) hx hb hts inw_X10_recipe_10 hown hK hP 0 rfl rfl 33 (by decide) (hts (.fieldLink RX10 81 "VatHouseModel" "next" "[I") (by decide +kernel)) (fun _ h9 => h9) rfl dX10_recipe_304 ?_
                          refine lv_iload hx hb dX10_recipe_307 (lv_at hl 0 rfl) ?_
                          refine va_iald hx hb hK hP 23 22 rfl rfl hkxv dX10_recipe_309 ?_
                          refine lv_topi (fun z_84 ez_84 => ?_)
                          have ez_84 : z_84 = l33 kx.toNatClampNeg := ez_84
                          refine lv_iload hx hb dX10_recipe_310 (lv_at hl 1 rfl) ?_
                          refine lv_iadd hx hb dX10_recipe_312 ?_
                          refine lv_topi (fun z_85 ez_85 => ?_)
                          refine va_iast hx hb hK hP hD hS 23 22 rfl rfl (rc_in ez_81 hkxI hby hr8 hd300).2.2 dX10_recipe_313 (fun H locs hP hD hS => ?_)
                          have hP : va_P (dC, dI) vwCl (mw g h0 b (va_up (va_up (va_up (va_up (va_up (va_up (va_up (va_up (va_up i 0 x0_21) 20 (0 : Int32)) 21 nn) 22 x22_25) 23 x23_26) 24 x24_27) 25 x25_28) 36 x36_29) 38 (0 : Int32)) (va_up (va_up (va_up (va_up (va_up (va_up (va_up (va_up a 26 f_56) 27 f_59) 28 f_62) 29 f_65) 30 f_68) 31 f_74) 32 f_80) 33 (upd l33 z_81.toNatClampNeg z_85))) _ := hP
                          have hD : va_D _ (mw g h0 b (va_up (va_up (va_up (va_up (va_up (va_up (va_up (va_up (va_up i 0 x0_21) 20 (0 : Int32)) 21 nn) 22 x22_25) 23 x23_26) 24 x24_27) 25 x25_28) 36 x36_29) 38 (0 : Int32)) (va_up (va_up (va_up (va_up (va_up (va_up (va_up (va_up a 26 f_56) 27 f_59) 28 f_62) 29 f_65) 30 f_68) 31 f_74) 32 f_80) 33 (upd l33 z_81.toNatClampNeg z_85))) := hD
                          obtain ⟨f_86, ef_86⟩ : ∃ z, z = (upd l33 z_81.toNatClampNeg z_85) := ⟨_, rfl⟩
                          rw [← ef_86] at hP hD
                          refine lv_iinc (v := (kx + 1)) (lv' := [(5, .int (kx + 1)), (4, .int z_45), (3, .int z_39), (0, .ref h0), (1, .int rr), (2, .int nn)]) hx hb dX10_recipe_314 hl (k := 0) rfl rfl (by decide) rfl (fun ls hl => ?_)
                          refine lv_goto (tgt := 111) hx hb dX10_recipe_317 (by decide) ?_
                          exact ih (kx + 1) f_56 f_59 f_62 f_65 f_68 f_74 f_80 f_86 _ _ _ (rc_nx hm hkxI hd3) (⟨d + 1, by rw [hd1]; exact nI_1 (2400 + d), by omega, by rw [ef_56, ef_59, ef_74, ef_80, ef_86]; exact CP.step hcp hr8 (rc_in ez_54 hkxI hby hr8 hd300).2.1 (rc_in ez_57 hkxI hby hr8 hd300).2.1 (rc_in ez_69 hkxI hby hr8 hd300).2.1 (rc_in ez_75 hkxI hby hr8 hd300).2.1 (rc_in ez_81 hkxI hby hr8 hd300).2.1 (by rw [ez_55, hkxc]) (by rw [ez_58, hkxc]) (by rw [shf, if_neg (by rw [← hkxc, ← ez_70]; exact c_71), ez_73, ez_72, hkxc]) (by rw [shf, if_neg (by rw [← hkxc, ← ez_76]; exact c_77), ez_79, ez_78, hkxc]) (by rw [shf, if_neg (by rw [← hkxc, ← ez_82]; exact c_83), ez_85, ez_84, hkxc])⟩) hP hD hS (lv_sub hl [0, 1, 2, 3, 4, 5] rfl)
                        · have nc_83 := eq_i c_83
                          have lc_83 : ((-1) : Int32).toInt = -1 := by decide
                          refine lv_iconst (v := (-1)) hx hb dX10_recipe_299 (by decide) ?_
                          refine lv_goto (tgt := 313) hx hb dX10_recipe_300 (by decide) ?_
                          refine va_iast hx hb hK hP hD hS 23 22 rfl rfl (rc_in ez_81 hkxI hby hr8 hd300).2.2 dX10_recipe_313 (fun H locs hP hD hS => ?_)
                          have hP : va_P (dC, dI) vwCl (mw g h0 b (va_up (va_up (va_up (va_up (va_up (va_up (va_up (va_up (va_up i 0 x0_21) 20 (0 : Int32)) 21 nn) 22 x22_25) 23 x23_26) 24 x24_27) 25 x25_28) 36 x36_29) 38 (0 : Int32)) (va_up (va_up (va_up (va_up (va_up (va_up (va_up (va_up a 26 f_56) 27 f_59) 28 f_62) 29 f_65) 30 f_68) 31 f_74) 32 f_80) 33 (upd l33 z_81.toNatClampNeg ((-1) : Int32)))) _ := hP
                          have hD : va_D _ (mw g h0 b (va_up (va_up (va_up (va_up (va_up (va_up (va_up (va_up (va_up i 0 x0_21) 20 (0 : Int32)) 21 nn) 22 x22_25) 23 x23_26) 24 x24_27) 25 x25_28) 36 x36_29) 38 (0 : Int32)) (va_up (va_up (va_up (va_up (va_up (va_up (va_up (va_up a 26 f_56) 27 f_59) 28 f_62) 29 f_65) 30 f_68) 31 f_74) 32 f_80) 33 (upd l33 z_81.toNatClampNeg ((-1) : Int32)))) := hD
                          obtain ⟨f_87, ef_87⟩ : ∃ z, z = (upd l33 z_81.toNatClampNeg ((-1) : Int32)) := ⟨_, rfl⟩
                          rw [← ef_87] at hP hD
                          refine lv_iinc (v := (kx + 1)) (lv' := [(5, .int (kx + 1)), (4, .int z_45), (3, .int z_39), (0, .ref h0), (1, .int rr), (2, .int nn)]) hx hb dX10_recipe_314 hl (k := 0) rfl rfl (by decide) rfl (fun ls hl => ?_)
                          refine lv_goto (tgt := 111) hx hb dX10_recipe_317 (by decide) ?_
                          exact ih (kx + 1) f_56 f_59 f_62 f_65 f_68 f_74 f_80 f_87 _ _ _ (rc_nx hm hkxI hd3) (⟨d + 1, by rw [hd1]; exact nI_1 (2400 + d), by omega, by rw [ef_56, ef_59, ef_74, ef_80, ef_87]; exact CP.step hcp hr8 (rc_in ez_54 hkxI hby hr8 hd300).2.1 (rc_in ez_57 hkxI hby hr8 hd300).2.1 (rc_in ez_69 hkxI hby hr8 hd300).2.1 (rc_in ez_75 hkxI hby hr8 hd300).2.1 (rc_in ez_81 hkxI hby hr8 hd300).2.1 (by rw [ez_55, hkxc]) (by rw [ez_58, hkxc]) (by rw [shf, if_neg (by rw [← hkxc, ← ez_70]; exact c_71), ez_73, ez_72, hkxc]) (by rw [shf, if_neg (by rw [← hkxc, ← ez_76]; exact c_77), ez_79, ez_78, hkxc]) (by rw [shf, if_pos (by rw [← hkxc, ← ez_82]; exact c_83)])⟩) hP hD hS (lv_sub hl [0, 1, 2, 3, 4, 5] rfl)
                      · have nc_77 := eq_i c_77
                        have lc_77 : ((-1) : Int32).toInt = -1 := by decide
                        refine lv_iconst (v := (-1)) hx hb dX10_recipe_264 (by decide) ?_
                        refine lv_goto (tgt := 278) hx hb dX10_recipe_265 (by decide) ?_
                        refine va_iast hx hb hK hP hD hS 22 21 rfl rfl (rc_in ez_75 hkxI hby hr8 hd300).2.2 dX10_recipe_278 (fun H locs hP hD hS => ?_)
                        have hP : va_P (dC, dI) vwCl (mw g h0 b (va_up (va_up (va_up (va_up (va_up (va_up (va_up (va_up (va_up i 0 x0_21) 20 (0 : Int32)) 21 nn) 22 x22_25) 23 x23_26) 24 x24_27) 25 x25_28) 36 x36_29) 38 (0 : Int32)) (va_up (va_up (va_up (va_up (va_up (va_up (va_up (va_up a 26 f_56) 27 f_59) 28 f_62) 29 f_65) 30 f_68) 31 f_74) 32 (upd l32 z_75.toNatClampNeg ((-1) : Int32))) 33 l33)) _ := hP
                        have hD : va_D _ (mw g h0 b (va_up (va_up (va_up (va_up (va_up (va_up (va_up (va_up (va_up i 0 x0_21) 20 (0 : Int32)) 21 nn) 22 x22_25) 23 x23_26) 24 x24_27) 25 x25_28) 36 x36_29) 38 (0 : Int32)) (va_up (va_up (va_up (va_up (va_up (va_up (va_up (va_up a 26 f_56) 27 f_59) 28 f_62) 29 f_65) 30 f_68) 31 f_74) 32 (upd l32 z_75.toNatClampNeg ((-1) : Int32))) 33 l33)) := hD
                        obtain ⟨f_88, ef_88⟩ : ∃ z, z = (upd l32 z_75.toNatClampNeg ((-1) : Int32)) := ⟨_, rfl⟩
                        rw [← ef_88] at hP hD
                        refine lv_aload_n hx hb dX10_recipe_279 rfl (lv_at hl 3 rfl) ?_
                        refine va_get (D := (dC, dI)) (ci := 10) (v := .ref (b 33)) (C := RX10) (T := TX10) (N := 51) hx hb hts inw_X10_recipe_10 hown hK hP 0 rfl rfl 33 (by decide) (hts (.fieldLink RX10 81 "VatHouseModel" "next" "[I") (by decide +kernel)) (fun _ h9 => h9) rfl dX10_recipe_280 ?_
                        refine lv_iload hx hb dX10_recipe_283 (lv_at hl 0 rfl) ?_
                        refine lv_iload hx hb dX10_recipe_285 (lv_at hl 1 rfl) ?_
                        refine lv_iadd hx hb dX10_recipe_287 ?_
                        refine lv_topi (fun z_89 ez_89 => ?_)
                        refine lv_aload_n hx hb dX10_recipe_288 rfl (lv_at hl 3 rfl) ?_
                        refine va_get (D := (dC, dI)) (ci := 10) (v := .ref (b 33)) (C := RX10) (T := TX10) (N := 51) hx hb hts inw_X10_recipe_10 hown hK hP 0 rfl rfl 33 (by decide) (hts (.fieldLink RX10 81 "VatHouseModel" "next" "[I") (by decide +kernel)) (fun _ h9 => h9) rfl dX10_recipe_289 ?_
                        refine lv_iload hx hb dX10_recipe_292 (lv_at hl 0 rfl) ?_
                        refine va_iald hx hb hK hP 23 22 rfl rfl hkxv dX10_recipe_294 ?_
                        refine lv_topi (fun z_90 ez_90 => ?_)
                        have ez_90 : z_90 = l33 kx.toNatClampNeg := ez_90
                        refine lv_iconst (v := (-1)) hx hb dX10_recipe_295 (by decide) ?_
                        refine lv_icmp_ne (tgt := 303) hx hb dX10_recipe_296 (by decide) (fun c_91 => ?_) (fun c_91 => ?_)
                        · have nc_91 := ne_i c_91
                          have lc_91 : ((-1) : Int32).toInt = -1 := by decide
                          refine lv_aload_n hx hb dX10_recipe_303 rfl (lv_at hl 3 rfl) ?_
                          refine va_get (D := (dC, dI)) (ci := 10) (v := .ref (b 33)) (C := RX10) (T := TX10) (N := 51) hx hb hts inw_X10_recipe_10 hown hK hP 0 rfl rfl 33 (by decide) (hts (.fieldLink RX10 81 "VatHouseModel" "next" "[I") (by decide +kernel)) (fun _ h9 => h9) rfl dX10_recipe_304 ?_
                          refine lv_iload hx hb dX10_recipe_307 (lv_at hl 0 rfl) ?_
                          refine va_iald hx hb hK hP 23 22 rfl rfl hkxv dX10_recipe_309 ?_
                          refine lv_topi (fun z_92 ez_92 => ?_)
                          have ez_92 : z_92 = l33 kx.toNatClampNeg := ez_92
                          refine lv_iload hx hb dX10_recipe_310 (lv_at hl 1 rfl) ?_
                          refine lv_iadd hx hb dX10_recipe_312 ?_
                          refine lv_topi (fun z_93 ez_93 => ?_)
                          refine va_iast hx hb hK hP hD hS 23 22 rfl rfl (rc_in ez_89 hkxI hby hr8 hd300).2.2 dX10_recipe_313 (fun H locs hP hD hS => ?_)
                          have hP : va_P (dC, dI) vwCl (mw g h0 b (va_up (va_up (va_up (va_up (va_up (va_up (va_up (va_up (va_up i 0 x0_21) 20 (0 : Int32)) 21 nn) 22 x22_25) 23 x23_26) 24 x24_27) 25 x25_28) 36 x36_29) 38 (0 : Int32)) (va_up (va_up (va_up (va_up (va_up (va_up (va_up (va_up a 26 f_56) 27 f_59) 28 f_62) 29 f_65) 30 f_68) 31 f_74) 32 f_88) 33 (upd l33 z_89.toNatClampNeg z_93))) _ := hP
                          have hD : va_D _ (mw g h0 b (va_up (va_up (va_up (va_up (va_up (va_up (va_up (va_up (va_up i 0 x0_21) 20 (0 : Int32)) 21 nn) 22 x22_25) 23 x23_26) 24 x24_27) 25 x25_28) 36 x36_29) 38 (0 : Int32)) (va_up (va_up (va_up (va_up (va_up (va_up (va_up (va_up a 26 f_56) 27 f_59) 28 f_62) 29 f_65) 30 f_68) 31 f_74) 32 f_88) 33 (upd l33 z_89.toNatClampNeg z_93))) := hD
                          obtain ⟨f_94, ef_94⟩ : ∃ z, z = (upd l33 z_89.toNatClampNeg z_93) := ⟨_, rfl⟩
                          rw [← ef_94] at hP hD
                          refine lv_iinc (v := (kx + 1)) (lv' := [(5, .int (kx + 1)), (4, .int z_45), (3, .int z_39), (0, .ref h0), (1, .int rr), (2, .int nn)]) hx hb dX10_recipe_314 hl (k := 0) rfl rfl (by decide) rfl (fun ls hl => ?_)
                          refine lv_goto (tgt := 111) hx hb dX10_recipe_317 (by decide) ?_
                          exact ih (kx + 1) f_56 f_59 f_62 f_65 f_68 f_74 f_88 f_94 _ _ _ (rc_nx hm hkxI hd3) (⟨d + 1, by rw [hd1]; exact nI_1 (2400 + d), by omega, by rw [ef_56, ef_59, ef_74, ef_88, ef_94]; exact CP.step hcp hr8 (rc_in ez_54 hkxI hby hr8 hd300).2.1 (rc_in ez_57 hkxI hby hr8 hd300).2.1 (rc_in ez_69 hkxI hby hr8 hd300).2.1 (rc_in ez_75 hkxI hby hr8 hd300).2.1 (rc_in ez_89 hkxI hby hr8 hd300).2.1 (by rw [ez_55, hkxc]) (by rw [ez_58, hkxc]) (by rw [shf, if_neg (by rw [← hkxc, ← ez_70]; exact c_71), ez_73, ez_72, hkxc]) (by rw [shf, if_pos (by rw [← hkxc, ← ez_76]; exact c_77)]) (by rw [shf, if_neg (by rw [← hkxc, ← ez_90]; exact c_91), ez_93, ez_92, hkxc])⟩) hP hD hS (lv_sub hl [0, 1, 2, 3, 4, 5] rfl)
                        · have nc_91 := eq_i c_91
                          have lc_91 : ((-1) : Int32).toInt = -1 := by decide
                          refine lv_iconst (v := (-1)) hx hb dX10_recipe_299 (by decide) ?_
                          refine lv_goto (tgt := 313) hx hb dX10_recipe_300 (by decide) ?_
                          refine va_iast hx hb hK hP hD hS 23 22 rfl rfl (rc_in ez_89 hkxI hby hr8 hd300).2.2 dX10_recipe_313 (fun H locs hP hD hS => ?_)
                          have hP : va_P (dC, dI) vwCl (mw g h0 b (va_up (va_up (va_up (va_up (va_up (va_up (va_up (va_up (va_up i 0 x0_21) 20 (0 : Int32)) 21 nn) 22 x22_25) 23 x23_26) 24 x24_27) 25 x25_28) 36 x36_29) 38 (0 : Int32)) (va_up (va_up (va_up (va_up (va_up (va_up (va_up (va_up a 26 f_56) 27 f_59) 28 f_62) 29 f_65) 30 f_68) 31 f_74) 32 f_88) 33 (upd l33 z_89.toNatClampNeg ((-1) : Int32)))) _ := hP
                          have hD : va_D _ (mw g h0 b (va_up (va_up (va_up (va_up (va_up (va_up (va_up (va_up (va_up i 0 x0_21) 20 (0 : Int32)) 21 nn) 22 x22_25) 23 x23_26) 24 x24_27) 25 x25_28) 36 x36_29) 38 (0 : Int32)) (va_up (va_up (va_up (va_up (va_up (va_up (va_up (va_up a 26 f_56) 27 f_59) 28 f_62) 29 f_65) 30 f_68) 31 f_74) 32 f_88) 33 (upd l33 z_89.toNatClampNeg ((-1) : Int32)))) := hD
                          obtain ⟨f_95, ef_95⟩ : ∃ z, z = (upd l33 z_89.toNatClampNeg ((-1) : Int32)) := ⟨_, rfl⟩
                          rw [← ef_95] at hP hD
                          refine lv_iinc (v := (kx + 1)) (lv' := [(5, .int (kx + 1)), (4, .int z_45), (3, .int z_39), (0, .ref h0), (1, .int rr), (2, .int nn)]) hx hb dX10_recipe_314 hl (k := 0) rfl rfl (by decide) rfl (fun ls hl => ?_)
                          refine lv_goto (tgt := 111) hx hb dX10_recipe_317 (by decide) ?_
                          exact ih (kx + 1) f_56 f_59 f_62 f_65 f_68 f_74 f_88 f_95 _ _ _ (rc_nx hm hkxI hd3) (⟨d + 1, by rw [hd1]; exact nI_1 (2400 + d), by omega, by rw [ef_56, ef_59, ef_74, ef_88, ef_95]; exact CP.step hcp hr8 (rc_in ez_54 hkxI hby hr8 hd300).2.1 (rc_in ez_57 hkxI hby hr8 hd300).2.1 (rc_in ez_69 hkxI hby hr8 hd300).2.1 (rc_in ez_75 hkxI hby hr8 hd300).2.1 (rc_in ez_89 hkxI hby hr8 hd300).2.1 (by rw [ez_55, hkxc]) (by rw [ez_58, hkxc]) (by rw [shf, if_neg (by rw [← hkxc, ← ez_70]; exact c_71), ez_73, ez_72, hkxc]) (by rw [shf, if_pos (by rw [← hkxc, ← ez_76]; exact c_77)]) (by rw [shf, if_pos (by rw [← hkxc, ← ez_90]; exact c_91)])⟩) hP hD hS (lv_sub hl [0, 1, 2, 3, 4, 5] rfl)
                    · have nc_71 := eq_i c_71
                      have lc_71 : ((-1) : Int32).toInt = -1 := by decide
                      refine lv_iconst (v := (-1)) hx hb dX10_recipe_229 (by decide) ?_
                      refine lv_goto (tgt := 243) hx hb dX10_recipe_230 (by decide) ?_
                      refine va_iast hx hb hK hP hD hS 21 20 rfl rfl (rc_in ez_69 hkxI hby hr8 hd300).2.2 dX10_recipe_243 (fun H locs hP hD hS => ?_)
                      have hP : va_P (dC, dI) vwCl (mw g h0 b (va_up (va_up (va_up (va_up (va_up (va_up (va_up (va_up (va_up i 0 x0_21) 20 (0 : Int32)) 21 nn) 22 x22_25) 23 x23_26) 24 x24_27) 25 x25_28) 36 x36_29) 38 (0 : Int32)) (va_up (va_up (va_up (va_up (va_up (va_up (va_up (va_up a 26 f_56) 27 f_59) 28 f_62) 29 f_65) 30 f_68) 31 (upd l31 z_69.toNatClampNeg ((-1) : Int32))) 32 l32) 33 l33)) _ := hP
                      have hD : va_D _ (mw g h0 b (va_up (va_up (va_up (va_up (va_up (va_up (va_up (va_up (va_up i 0 x0_21) 20 (0 : Int32)) 21 nn) 22 x22_25) 23 x23_26) 24 x24_27) 25 x25_28) 36 x36_29) 38 (0 : Int32)) (va_up (va_up (va_up (va_up (va_up (va_up (va_up (va_up a 26 f_56) 27 f_59) 28 f_62) 29 f_65) 30 f_68) 31 (upd l31 z_69.toNatClampNeg ((-1) : Int32))) 32 l32) 33 l33)) := hD
                      obtain ⟨f_96, ef_96⟩ : ∃ z, z = (upd l31 z_69.toNatClampNeg ((-1) : Int32)) := ⟨_, rfl⟩
                      rw [← ef_96] at hP hD
                      refine lv_aload_n hx hb dX10_recipe_244 rfl (lv_at hl 3 rfl) ?_
                      refine va_get (D := (dC, dI)) (ci := 10) (v := .ref (b 32)) (C := RX10) (T := TX10) (N := 51) hx hb hts inw_X10_recipe_10 hown hK hP 0 rfl rfl 32 (by decide) (hts (.fieldLink RX10 78 "VatHouseModel" "other" "[I") (by decide +kernel)) (fun _ h9 => h9) rfl dX10_recipe_245 ?_
                      refine lv_iload hx hb dX10_recipe_248 (lv_at hl 0 rfl) ?_
                      refine lv_iload hx hb dX10_recipe_250 (lv_at hl 1 rfl) ?_
                      refine lv_iadd hx hb dX10_recipe_252 ?_
                      refine lv_topi (fun z_97 ez_97 => ?_)
                      refine lv_aload_n hx hb dX10_recipe_253 rfl (lv_at hl 3 rfl) ?_
                      refine va_get (D := (dC, dI)) (ci := 10) (v := .ref (b 32)) (C := RX10) (T := TX10) (N := 51) hx hb hts inw_X10_recipe_10 hown hK hP 0 rfl rfl 32 (by decide) (hts (.fieldLink RX10 78 "VatHouseModel" "other" "[I") (by decide +kernel)) (fun _ h9 => h9) rfl dX10_recipe_254 ?_
                      refine lv_iload hx hb dX10_recipe_257 (lv_at hl 0 rfl) ?_
                      refine va_iald hx hb hK hP 22 21 rfl rfl hkxv dX10_recipe_259 ?_
                      refine lv_topi (fun z_98 ez_98 => ?_)
                      have ez_98 : z_98 = l32 kx.toNatClampNeg := ez_98
                      refine lv_iconst (v := (-1)) hx hb dX10_recipe_260 (by decide) ?_
                      refine lv_icmp_ne (tgt := 268) hx hb dX10_recipe_261 (by decide) (fun c_99 => ?_) (fun c_99 => ?_)
                      · have nc_99 := ne_i c_99
                        have lc_99 : ((-1) : Int32).toInt = -1 := by decide
                        refine lv_aload_n hx hb dX10_recipe_268 rfl (lv_at hl 3 rfl) ?_
                        refine va_get (D := (dC, dI)) (ci := 10) (v := .ref (b 32)) (C := RX10) (T := TX10) (N := 51) hx hb hts inw_X10_recipe_10 hown hK hP 0 rfl rfl 32 (by decide) (hts (.fieldLink RX10 78 "VatHouseModel" "other" "[I") (by decide +kernel)) (fun _ h9 => h9) rfl dX10_recipe_269 ?_
                        refine lv_iload hx hb dX10_recipe_272 (lv_at hl 0 rfl) ?_
                        refine va_iald hx hb hK hP 22 21 rfl rfl hkxv dX10_recipe_274 ?_
                        refine lv_topi (fun z_100 ez_100 => ?_)
                        have ez_100 : z_100 = l32 kx.toNatClampNeg := ez_100
                        refine lv_iload hx hb dX10_recipe_275 (lv_at hl 1 rfl) ?_
                        refine lv_iadd hx hb dX10_recipe_277 ?_
                        refine lv_topi (fun z_101 ez_101 => ?_)
                        refine va_iast hx hb hK hP hD hS 22 21 rfl rfl (rc_in ez_97 hkxI hby hr8 hd300).2.2 dX10_recipe_278 (fun H locs hP hD hS => ?_)
                        have hP : va_P (dC, dI) vwCl (mw g h0 b (va_up (va_up (va_up (va_up (va_up (va_up (va_up (va_up (va_up i 0 x0_21) 20 (0 : Int32)) 21 nn) 22 x22_25) 23 x23_26) 24 x24_27) 25 x25_28) 36 x36_29) 38 (0 : Int32)) (va_up (va_up (va_up (va_up (va_up (va_up (va_up (va_up a 26 f_56) 27 f_59) 28 f_62) 29 f_65) 30 f_68) 31 f_96) 32 (upd l32 z_97.toNatClampNeg z_101)) 33 l33)) _ := hP
                        have hD : va_D _ (mw g h0 b (va_up (va_up (va_up (va_up (va_up (va_up (va_up (va_up (va_up i 0 x0_21) 20 (0 : Int32)) 21 nn) 22 x22_25) 23 x23_26) 24 x24_27) 25 x25_28) 36 x36_29) 38 (0 : Int32)) (va_up (va_up (va_up (va_up (va_up (va_up (va_up (va_up a 26 f_56) 27 f_59) 28 f_62) 29 f_65) 30 f_68) 31 f_96) 32 (upd l32 z_97.toNatClampNeg z_101)) 33 l33)) := hD
                        obtain ⟨f_102, ef_102⟩ : ∃ z, z = (upd l32 z_97.toNatClampNeg z_101) := ⟨_, rfl⟩
                        rw [← ef_102] at hP hD
                        refine lv_aload_n hx hb dX10_recipe_279 rfl (lv_at hl 3 rfl) ?_
                        refine va_get (D := (dC, dI)) (ci := 10) (v := .ref (b 33)) (C := RX10) (T := TX10) (N := 51) hx hb hts inw_X10_recipe_10 hown hK hP 0 rfl rfl 33 (by decide) (hts (.fieldLink RX10 81 "VatHouseModel" "next" "[I") (by decide +kernel)) (fun _ h9 => h9) rfl dX10_recipe_280 ?_
                        refine lv_iload hx hb dX10_recipe_283 (lv_at hl 0 rfl) ?_
                        refine lv_iload hx hb dX10_recipe_285 (lv_at hl 1 rfl) ?_
                        refine lv_iadd hx hb dX10_recipe_287 ?_
                        refine lv_topi (fun z_103 ez_103 => ?_)
                        refine lv_aload_n hx hb dX10_recipe_288 rfl (lv_at hl 3 rfl) ?_
                        refine va_get (D := (dC, dI)) (ci := 10) (v := .ref (b 33)) (C := RX10) (T := TX10) (N := 51) hx hb hts inw_X10_recipe_10 hown hK hP 0 rfl rfl 33 (by decide) (hts (.fieldLink RX10 81 "VatHouseModel" "next" "[I") (by decide +kernel)) (fun _ h9 => h9) rfl dX10_recipe_289 ?_
                        refine lv_iload hx hb dX10_recipe_292 (lv_at hl 0 rfl) ?_
                        refine va_iald hx hb hK hP 23 22 rfl rfl hkxv dX10_recipe_294 ?_
                        refine lv_topi (fun z_104 ez_104 => ?_)
                        have ez_104 : z_104 = l33 kx.toNatClampNeg := ez_104
                        refine lv_iconst (v := (-1)) hx hb dX10_recipe_295 (by decide) ?_
                        refine lv_icmp_ne (tgt := 303) hx hb dX10_recipe_296 (by decide) (fun c_105 => ?_) (fun c_105 => ?_)
                        · have nc_105 := ne_i c_105
                          have lc_105 : ((-1) : Int32).toInt = -1 := by decide
                          refine lv_aload_n hx hb dX10_recipe_303 rfl (lv_at hl 3 rfl) ?_
                          refine va_get (D := (dC, dI)) (ci := 10) (v := .ref (b 33)) (C := RX10) (T := TX10) (N := 51) hx hb hts inw_X10_recipe_10 hown hK hP 0 rfl rfl 33 (by decide) (hts (.fieldLink RX10 81 "VatHouseModel" "next" "[I") (by decide +kernel)) (fun _ h9 => h9) rfl dX10_recipe_304 ?_
                          refine lv_iload hx hb dX10_recipe_307 (lv_at hl 0 rfl) ?_
                          refine va_iald hx hb hK hP 23 22 rfl rfl hkxv dX10_recipe_309 ?_
                          refine lv_topi (fun z_106 ez_106 => ?_)
                          have ez_106 : z_106 = l33 kx.toNatClampNeg := ez_106
                          refine lv_iload hx hb dX10_recipe_310 (lv_at hl 1 rfl) ?_
                          refine lv_iadd hx hb dX10_recipe_312 ?_
                          refine lv_topi (fun z_107 ez_107 => ?_)
                          refine va_iast hx hb hK hP hD hS 23 22 rfl rfl (rc_in ez_103 hkxI hby hr8 hd300).2.2 dX10_recipe_313 (fun H locs hP hD hS => ?_)
                          have hP : va_P (dC, dI) vwCl (mw g h0 b (va_up (va_up (va_up (va_up (va_up (va_up (va_up (va_up (va_up i 0 x0_21) 20 (0 : Int32)) 21 nn) 22 x22_25) 23 x23_26) 24 x24_27) 25 x25_28) 36 x36_29) 38 (0 : Int32)) (va_up (va_up (va_up (va_up (va_up (va_up (va_up (va_up a 26 f_56) 27 f_59) 28 f_62) 29 f_65) 30 f_68) 31 f_96) 32 f_102) 33 (upd l33 z_103.toNatClampNeg z_107))) _ := hP
                          have hD : va_D _ (mw g h0 b (va_up (va_up (va_up (va_up (va_up (va_up (va_up (va_up (va_up i 0 x0_21) 20 (0 : Int32)) 21 nn) 22 x22_25) 23 x23_26) 24 x24_27) 25 x25_28) 36 x36_29) 38 (0 : Int32)) (va_up (va_up (va_up (va_up (va_up (va_up (va_up (va_up a 26 f_56) 27 f_59) 28 f_62) 29 f_65) 30 f_68) 31 f_96) 32 f_102) 33 (upd l33 z_103.toNatClampNeg z_107))) := hD
                          obtain ⟨f_108, ef_108⟩ : ∃ z, z = (upd l33 z_103.toNatClampNeg z_107) := ⟨_, rfl⟩
                          rw [← ef_108] at hP hD
                          refine lv_iinc (v := (kx + 1)) (lv' := [(5, .int (kx + 1)), (4, .int z_45), (3, .int z_39), (0, .ref h0), (1, .int rr), (2, .int nn)]) hx hb dX10_recipe_314 hl (k := 0) rfl rfl (by decide) rfl (fun ls hl => ?_)
                          refine lv_goto (tgt := 111) hx hb dX10_recipe_317 (by decide) ?_
                          exact ih (kx + 1) f_56 f_59 f_62 f_65 f_68 f_96 f_102 f_108 _ _ _ (rc_nx hm hkxI hd3) (⟨d + 1, by rw [hd1]; exact nI_1 (2400 + d), by omega, by rw [ef_56, ef_59, ef_96, ef_102, ef_108]; exact CP.step hcp hr8 (rc_in ez_54 hkxI hby hr8 hd300).2.1 (rc_in ez_57 hkxI hby hr8 hd300).2.1 (rc_in ez_69 hkxI hby hr8 hd300).2.1 (rc_in ez_97 hkxI hby hr8 hd300).2.1 (rc_in ez_103 hkxI hby hr8 hd300).2.1 (by rw [ez_55, hkxc]) (by rw [ez_58, hkxc]) (by rw [shf, if_pos (by rw [← hkxc, ← ez_70]; exact c_71)]) (by rw [shf, if_neg (by rw [← hkxc, ← ez_98]; exact c_99), ez_101, ez_100, hkxc]) (by rw [shf, if_neg (by rw [← hkxc, ← ez_104]; exact c_105), ez_107, ez_106, hkxc])⟩) hP hD hS (lv_sub hl [0, 1, 2, 3, 4, 5] rfl)
                        · have nc_105 := eq_i c_105
                          have lc_105 : ((-1) : Int32).toInt = -1 := by decide
                          refine lv_iconst (v := (-1)) hx hb dX10_recipe_299 (by decide) ?_
                          refine lv_goto (tgt := 313) hx hb dX10_recipe_300 (by decide) ?_
                          refine va_iast hx hb hK hP hD hS 23 22 rfl rfl (rc_in ez_103 hkxI hby hr8 hd300).2.2 dX10_recipe_313 (fun H locs hP hD hS => ?_)
                          have hP : va_P (dC, dI) vwCl (mw g h0 b (va_up (va_up (va_up (va_up (va_up (va_up (va_up (va_up (va_up i 0 x0_21) 20 (0 : Int32)) 21 nn) 22 x22_25) 23 x23_26) 24 x24_27) 25 x25_28) 36 x36_29) 38 (0 : Int32)) (va_up (va_up (va_up (va_up (va_up (va_up (va_up (va_up a 26 f_56) 27 f_59) 28 f_62) 29 f_65) 30 f_68) 31 f_96) 32 f_102) 33 (upd l33 z_103.toNatClampNeg ((-1) : Int32)))) _ := hP
                          have hD : va_D _ (mw g h0 b (va_up (va_up (va_up (va_up (va_up (va_up (va_up (va_up (va_up i 0 x0_21) 20 (0 : Int32)) 21 nn) 22 x22_25) 23 x23_26) 24 x24_27) 25 x25_28) 36 x36_29) 38 (0 : Int32)) (va_up (va_up (va_up (va_up (va_up (va_up (va_up (va_up a 26 f_56) 27 f_59) 28 f_62) 29 f_65) 30 f_68) 31 f_96) 32 f_102) 33 (upd l33 z_103.toNatClampNeg ((-1) : Int32)))) := hD
                          obtain ⟨f_109, ef_109⟩ : ∃ z, z = (upd l33 z_103.toNatClampNeg ((-1) : Int32)) := ⟨_, rfl⟩
                          rw [← ef_109] at hP hD
                          refine lv_iinc (v := (kx + 1)) (lv' := [(5, .int (kx + 1)), (4, .int z_45), (3, .int z_39), (0, .ref h0), (1, .int rr), (2, .int nn)]) hx hb dX10_recipe_314 hl (k := 0) rfl rfl (by decide) rfl (fun ls hl => ?_)
                          refine lv_goto (tgt := 111) hx hb dX10_recipe_317 (by decide) ?_
                          exact ih (kx + 1) f_56 f_59 f_62 f_65 f_68 f_96 f_102 f_109 _ _ _ (rc_nx hm hkxI hd3) (⟨d + 1, by rw [hd1]; exact nI_1 (2400 + d), by omega, by rw [ef_56, ef_59, ef_96, ef_102, ef_109]; exact CP.step hcp hr8 (rc_in ez_54 hkxI hby hr8 hd300).2.1 (rc_in ez_57 hkxI hby hr8 hd300).2.1 (rc_in ez_69 hkxI hby hr8 hd300).2.1 (rc_in ez_97 hkxI hby hr8 hd300).2.1 (rc_in ez_103 hkxI hby hr8 hd300).2.1 (by rw [ez_55, hkxc]) (by rw [ez_58, hkxc]) (by rw [shf, if_pos (by rw [← hkxc, ← ez_70]; exact c_71)]) (by rw [shf, if_neg (by rw [← hkxc, ← ez_98]; exact c_99), ez_101, ez_100, hkxc]) (by rw [shf, if_pos (by rw [← hkxc, ← ez_104]; exact c_105)])⟩) hP hD hS (lv_sub hl [0, 1, 2, 3, 4, 5] rfl)
                      · have nc_99 := eq_i c_99
                        have lc_99 : ((-1) : Int32).toInt = -1 := by decide
                        refine lv_iconst (v := (-1)) hx hb dX10_recipe_264 (by decide) ?_
                        refine lv_goto (tgt := 278) hx hb dX10_recipe_265 (by decide) ?_
                        refine va_iast hx hb hK hP hD hS 22 21 rfl rfl (rc_in ez_97 hkxI hby hr8 hd300).2.2 dX10_recipe_278 (fun H locs hP hD hS => ?_)
                        have hP : va_P (dC, dI) vwCl (mw g h0 b (va_up (va_up (va_up (va_up (va_up (va_up (va_up (va_up (va_up i 0 x0_21) 20 (0 : Int32)) 21 nn) 22 x22_25) 23 x23_26) 24 x24_27) 25 x25_28) 36 x36_29) 38 (0 : Int32)) (va_up (va_up (va_up (va_up (va_up (va_up (va_up (va_up a 26 f_56) 27 f_59) 28 f_62) 29 f_65) 30 f_68) 31 f_96) 32 (upd l32 z_97.toNatClampNeg ((-1) : Int32))) 33 l33)) _ := hP
                        have hD : va_D _ (mw g h0 b (va_up (va_up (va_up (va_up (va_up (va_up (va_up (va_up (va_up i 0 x0_21) 20 (0 : Int32)) 21 nn) 22 x22_25) 23 x23_26) 24 x24_27) 25 x25_28) 36 x36_29) 38 (0 : Int32)) (va_up (va_up (va_up (va_up (va_up (va_up (va_up (va_up a 26 f_56) 27 f_59) 28 f_62) 29 f_65) 30 f_68) 31 f_96) 32 (upd l32 z_97.toNatClampNeg ((-1) : Int32))) 33 l33)) := hD
                        obtain ⟨f_110, ef_110⟩ : ∃ z, z = (upd l32 z_97.toNatClampNeg ((-1) : Int32)) := ⟨_, rfl⟩
                        rw [← ef_110] at hP hD
                        refine lv_aload_n hx hb dX10_recipe_279 rfl (lv_at hl 3 rfl) ?_
                        refine va_get (D := (dC, dI)) (ci := 10) (v := .ref (b 33)) (C := RX10) (T := TX10) (N := 51) hx hb hts inw_X10_recipe_10 hown hK hP 0 rfl rfl 33 (by decide) (hts (.fieldLink RX10 81 "VatHouseModel" "next" "[I") (by decide +kernel)) (fun _ h9 => h9) rfl dX10_recipe_280 ?_
                        refine lv_iload hx hb dX10_recipe_283 (lv_at hl 0 rfl) ?_
                        refine lv_iload hx hb dX10_recipe_285 (lv_at hl 1 rfl) ?_
                        refine lv_iadd hx hb dX10_recipe_287 ?_
                        refine lv_topi (fun z_111 ez_111 => ?_)
                        refine lv_aload_n hx hb dX10_recipe_288 rfl (lv_at hl 3 rfl) ?_
                        refine va_get (D := (dC, dI)) (ci := 10) (v := .ref (b 33)) (C := RX10) (T := TX10) (N := 51) hx hb hts inw_X10_recipe_10 hown hK hP 0 rfl rfl 33 (by decide) (hts (.fieldLink RX10 81 "VatHouseModel" "next" "[I") (by decide +kernel)) (fun _ h9 => h9) rfl dX10_recipe_289 ?_
                        refine lv_iload hx hb dX10_recipe_292 (lv_at hl 0 rfl) ?_
                        refine va_iald hx hb hK hP 23 22 rfl rfl hkxv dX10_recipe_294 ?_
                        refine lv_topi (fun z_112 ez_112 => ?_)
                        have ez_112 : z_112 = l33 kx.toNatClampNeg := ez_112
                        refine lv_iconst (v := (-1)) hx hb dX10_recipe_295 (by decide) ?_
                        refine lv_icmp_ne (tgt := 303) hx hb dX10_recipe_296 (by decide) (fun c_113 => ?_) (fun c_113 => ?_)
                        · have nc_113 := ne_i c_113
                          have lc_113 : ((-1) : Int32).toInt = -1 := by decide
                          refine lv_aload_n hx hb dX10_recipe_303 rfl (lv_at hl 3 rfl) ?_
                          refine va_get (D := (dC, dI)) (ci := 10) (v := .ref (b 33)) (C := RX10) (T := TX10) (N := 51) hx hb hts inw_X10_recipe_10 hown hK hP 0 rfl rfl 33 (by decide) (hts (.fieldLink RX10 81 "VatHouseModel" "next" "[I") (by decide +kernel)) (fun _ h9 => h9) rfl dX10_recipe_304 ?_
                          refine lv_iload hx hb dX10_recipe_307 (lv_at hl 0 rfl) ?_
                          refine va_iald hx hb hK hP 23 22 rfl rfl hkxv dX10_recipe_309 ?_
                          refine lv_topi (fun z_114 ez_114 => ?_)
                          have ez_114 : z_114 = l33 kx.toNatClampNeg := ez_114
                          refine lv_iload hx hb dX10_recipe_310 (lv_at hl 1 rfl) ?_
                          refine lv_iadd hx hb dX10_recipe_312 ?_
                          refine lv_topi (fun z_115 ez_115 => ?_)
                          refine va_iast hx hb hK hP hD hS 23 22 rfl rfl (rc_in ez_111 hkxI hby hr8 hd300).2.2 dX10_recipe_313 (fun H locs hP hD hS => ?_)
                          have hP : va_P (dC, dI) vwCl (mw g h0 b (va_up (va_up (va_up (va_up (va_up (va_up (va_up (va_up (va_up i 0 x0_21) 20 (0 : Int32)) 21 nn) 22 x22_25) 23 x23_26) 24 x24_27) 25 x25_28) 36 x36_29) 38 (0 : Int32)) (va_up (va_up (va_up (va_up (va_up (va_up (va_up (va_up a 26 f_56) 27 f_59) 28 f_62) 29 f_65) 30 f_68) 31 f_96) 32 f_110) 33 (upd l33 z_111.toNatClampNeg z_115))) _ := hP
                          have hD : va_D _ (mw g h0 b (va_up (va_up (va_up (va_up (va_up (va_up (va_up (va_up (va_up i 0 x0_21) 20 (0 : Int32)) 21 nn) 22 x22_25) 23 x23_26) 24 x24_27) 25 x25_28) 36 x36_29) 38 (0 : Int32)) (va_up (va_up (va_up (va_up (va_up (va_up (va_up (va_up a 26 f_56) 27 f_59) 28 f_62) 29 f_65) 30 f_68) 31 f_96) 32 f_110) 33 (upd l33 z_111.toNatClampNeg z_115))) := hD
                          obtain ⟨f_116, ef_116⟩ : ∃ z, z = (upd l33 z_111.toNatClampNeg z_115) := ⟨_, rfl⟩
                          rw [← ef_116] at hP hD
                          refine lv_iinc (v := (kx + 1)) (lv' := [(5, .int (kx + 1)), (4, .int z_45), (3, .int z_39), (0, .ref h0), (1, .int rr), (2, .int nn)]) hx hb dX10_recipe_314 hl (k := 0) rfl rfl (by decide) rfl (fun ls hl => ?_)
                          refine lv_goto (tgt := 111) hx hb dX10_recipe_317 (by decide) ?_
                          exact ih (kx + 1) f_56 f_59 f_62 f_65 f_68 f_96 f_110 f_116 _ _ _ (rc_nx hm hkxI hd3) (⟨d + 1, by rw [hd1]; exact nI_1 (2400 + d), by omega, by rw [ef_56, ef_59, ef_96, ef_110, ef_116]; exact CP.step hcp hr8 (rc_in ez_54 hkxI hby hr8 hd300).2.1 (rc_in ez_57 hkxI hby hr8 hd300).2.1 (rc_in ez_69 hkxI hby hr8 hd300).2.1 (rc_in ez_97 hkxI hby hr8 hd300).2.1 (rc_in ez_111 hkxI hby hr8 hd300).2.1 (by rw [ez_55, hkxc]) (by rw [ez_58, hkxc]) (by rw [shf, if_pos (by rw [← hkxc, ← ez_70]; exact c_71)]) (by rw [shf, if_pos (by rw [← hkxc, ← ez_98]; exact c_99)]) (by rw [shf, if_neg (by rw [← hkxc, ← ez_112]; exact c_113), ez_115, ez_114, hkxc])⟩) hP hD hS (lv_sub hl [0, 1, 2, 3, 4, 5] rfl)
                        · have nc_113 := eq_i c_113
                          have lc_113 : ((-1) : Int32).toInt = -1 := by decide
                          refine lv_iconst (v := (-1)) hx hb dX10_recipe_299 (by decide) ?_
                          refine lv_goto (tgt := 313) hx hb dX10_recipe_300 (by decide) ?_
                          refine va_iast hx hb hK hP hD hS 23 22 rfl rfl (rc_in ez_111 hkxI hby hr8 hd300).2.2 dX10_recipe_313 (fun H locs hP hD hS => ?_)
                          have hP : va_P (dC, dI) vwCl (mw g h0 b (va_up (va_up (va_up (va_up (va_up (va_up (va_up (va_up (va_up i 0 x0_21) 20 (0 : Int32)) 21 nn) 22 x22_25) 23 x23_26) 24 x24_27) 25 x25_28) 36 x36_29) 38 (0 : Int32)) (va_up (va_up (va_up (va_up (va_up (va_up (va_up (va_up a 26 f_56) 27 f_59) 28 f_62) 29 f_65) 30 f_68) 31 f_96) 32 f_110) 33 (upd l33 z_111.toNatClampNeg ((-1) : Int32)))) _ := hP
                          have hD : va_D _ (mw g h0 b (va_up (va_up (va_up (va_up (va_up (va_up (va_up (va_up (va_up i 0 x0_21) 20 (0 : Int32)) 21 nn) 22 x22_25) 23 x23_26) 24 x24_27) 25 x25_28) 36 x36_29) 38 (0 : Int32)) (va_up (va_up (va_up (va_up (va_up (va_up (va_up (va_up a 26 f_56) 27 f_59) 28 f_62) 29 f_65) 30 f_68) 31 f_96) 32 f_110) 33 (upd l33 z_111.toNatClampNeg ((-1) : Int32)))) := hD
                          obtain ⟨f_117, ef_117⟩ : ∃ z, z = (upd l33 z_111.toNatClampNeg ((-1) : Int32)) := ⟨_, rfl⟩
                          rw [← ef_117] at hP hD
                          refine lv_iinc (v := (kx + 1)) (lv' := [(5, .int (kx + 1)), (4, .int z_45), (3, .int z_39), (0, .ref h0), (1, .int rr), (2, .int nn)]) hx hb dX10_recipe_314 hl (k := 0) rfl rfl (by decide) rfl (fun ls hl => ?_)
                          refine lv_goto (tgt := 111) hx hb dX10_recipe_317 (by decide) ?_
                          exact ih (kx + 1) f_56 f_59 f_62 f_65 f_68 f_96 f_110 f_117 _ _ _ (rc_nx hm hkxI hd3) (⟨d + 1, by rw [hd1]; exact nI_1 (2400 + d), by omega, by rw [ef_56, ef_59, ef_96, ef_110, ef_117]; exact CP.step hcp hr8 (rc_in ez_54 hkxI hby hr8 hd300).2.1 (rc_in ez_57 hkxI hby hr8 hd300).2.1 (rc_in ez_69 hkxI hby hr8 hd300).2.1 (rc_in ez_97 hkxI hby hr8 hd300).2.1 (rc_in ez_111 hkxI hby hr8 hd300).2.1 (by rw [ez_55, hkxc]) (by rw [ez_58, hkxc]) (by rw [shf, if_pos (by rw [← hkxc, ← ez_70]; exact c_71)]) (by rw [shf, if_pos (by rw [← hkxc, ← ez_98]; exact c_99)]) (by rw [shf, if_pos (by rw [← hkxc, ← ez_112]; exact c_113)])⟩) hP hD hS (lv_sub hl [0, 1, 2, 3, 4, 5] rfl)
              exact lp ((2400 + x36_29.toInt - (2400 : Int32).toInt).toNat + 1) (2400 : Int32) y26_30 y27_31 y28_32 y29_33 y30_34 y31_35 y32_36 y33_37 _ _ _ (by omega) (⟨0, by decide, by omega, CP.z⟩) hP hD hS (lv_sub hl [0, 1, 2, 3, 4, 5] rfl)
            · have nc_43 := nle_i c_43
              have lc_43 : (0 : Int32).toInt = 0 := by decide
              refine lv_aload_n hx hb dX10_recipe_90 rfl (lv_at hl 1 rfl) ?_
              refine va_get (D := (dC, dI)) (ci := 10) (v := .int x23_26) (C := RX10) (T := TX10) (N := 51) hx hb hts inw_X10_recipe_10 hown hK hP 0 rfl rfl 23 (by decide) (hts (.fieldLink RX10 165 "VatHouseModel" "faultKind" "I") (by decide +kernel)) (fun _ h9 => h9) rfl dX10_recipe_91 ?_
              exact M_i hx hb hr hlocks (x0_21, (0 : Int32), nn, x22_25, x23_26, x24_27, x25_28, x36_29, (i 37), (0 : Int32), y26_30, y27_31, y28_32, y29_33, y30_34, y31_35, y32_36, y33_37, (a 34), (a 35)) hP hD hK hS ⟨⟨_, rfl⟩, ⟨⟨by decide, BI.lf hBI hPR_40.2.2.1⟩, Or.inr ⟨⟨c_1, c_6, c_11, c_16⟩, rfl, hz2_23.2, ln, r1, hnl, hln, hev1, by rw [h23, hrn], by rw [h24, hrn], rfl⟩⟩⟩ (Nat.le_of_ble_eq_true rfl) (Nat.le_of_ble_eq_true rfl) dX10_recipe_94
