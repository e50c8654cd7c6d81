/-! the banks of the recipes -/
noncomputable def shf (b x : Int32) : Int32 := if x = -1 then -1 else x + b
noncomputable def CP (r d : Nat) (b : Int32) (kd on inr oth nx kd' on' inr' oth' nx' : Nat → Int32) : Prop :=
  (∀ k : Nat, k < 300 * r ∨ 300 * r + d ≤ k → kd' k = kd k ∧ on' k = on k ∧ inr' k = inr k ∧ oth' k = oth k ∧ nx' k = nx k) ∧
  ∀ m : Nat, m < d → kd' (300 * r + m) = kd (2400 + m) ∧ on' (300 * r + m) = on (2400 + m) ∧ inr' (300 * r + m) = shf b (inr (2400 + m)) ∧ oth' (300 * r + m) = shf b (oth (2400 + m)) ∧ nx' (300 * r + m) = shf b (nx (2400 + m))
noncomputable def BV (r : Nat) (mn : Nat → Int32) (k : Nat) : Prop := 300 * r ≤ k ∧ (k : Int) < 300 * r + (mn r).toInt
noncomputable def BI (kd on inr oth nx fi mn : Nat → Int32) : Prop := ∀ r : Nat, r < 8 → 0 ≤ (mn r).toInt ∧ (mn r).toInt ≤ 300 ∧ ∃ dp : Nat → Nat, ND (BV r mn) dp kd on inr oth nx ∧ (fi r = -2 ∨ lk (BV r mn) dp 0 (fi r))
section CPS
variable {r d : Nat} {b : Int32} {kd on inr oth nx kd' on' inr' oth' nx' : Nat → Int32}
theorem CP.z : CP r 0 b kd on inr oth nx kd on inr oth nx := ⟨fun _ _ => ⟨rfl, rfl, rfl, rfl, rfl⟩, fun m h => absurd h (by omega)⟩
theorem CP.step (h : CP r d b kd on inr oth nx kd' on' inr' oth' nx') (hr : r < 8) {x1 x2 x3 x4 x5 : Nat} (e1 : x1 = 300 * r + d) (e2 : x2 = 300 * r + d) (e3 : x3 = 300 * r + d) (e4 : x4 = 300 * r + d) (e5 : x5 = 300 * r + d) {v1 v2 v3 v4 v5 : Int32} (h1 : v1 = kd' (2400 + d)) (h2 : v2 = on' (2400 + d)) (h3 : v3 = shf b (inr' (2400 + d))) (h4 : v4 = shf b (oth' (2400 + d))) (h5 : v5 = shf b (nx' (2400 + d))) :
    CP r (d + 1) b kd on inr oth nx (upd kd' x1 v1) (upd on' x2 v2) (upd inr' x3 v3) (upd oth' x4 v4) (upd nx' x5 v5) := by
  subst e1; subst e2; subst e3; subst e4; subst e5
  obtain ⟨g1, g2, g3, g4, g5⟩ := h.1 (2400 + d) (Or.inr (by omega))
  refine ⟨fun k hk => ?_, fun m hm => ?_⟩
  · have hne : k ≠ 300 * r + d := by omega
    simp only [upd, hne, if_false]
    exact h.1 k (by omega)
  · by_cases e : m = d
    · subst e
      simp only [upd, if_true]
      exact ⟨h1.trans g1, h2.trans g2, by rw [h3, g3], by rw [h4, g4], by rw [h5, g5]⟩
    · have hne : 300 * r + m ≠ 300 * r + d := by omega
      simp only [upd, hne, if_false]
      exact h.2 m (by omega)
theorem ND.same {V : Nat → Prop} {dp : Nat → Nat} (h : ND V dp kd on inr oth nx) (he : ∀ k : Nat, V k → kd' k = kd k ∧ on' k = on k ∧ inr' k = inr k ∧ oth' k = oth k ∧ nx' k = nx k) : ND V dp kd' on' inr' oth' nx' := fun k hk => by
  obtain ⟨g1, g2, g3, g4, g5⟩ := he k hk
  rw [g1, g2, g3, g4, g5]
  exact h k hk
end CPS
theorem BI.put {r : Nat} (hr : r < 8) {rr b N z0 v : Int32} {dp : Nat → Nat} {a1 a2 a3 a4 a5 c1 c2 c3 c4 c5 l1 l2 l3 l4 l5 fi mn : Nat → Int32} (hB : BI a1 a2 a3 a4 a5 fi mn) (hL : LF a1 a2 a3 a4 a5 c1 c2 c3 c4 c5) (hN : PN N dp c1 c2 c3 c4 c5) (hC : CP r N.toInt.toNat b c1 c2 c3 c4 c5 l1 l2 l3 l4 l5) (hb : b.toInt = 300 * (r : Int) - 2400) (hk : lk (PV N) dp 0 z0) (hv : v = if z0 = -1 then -2 else z0 + b) (hrr : rr.toNatClampNeg = r) : BI l1 l2 l3 l4 l5 (upd fi rr.toNatClampNeg v) (upd mn rr.toNatClampNeg N) := by
  subst hrr
  obtain ⟨hN1, hN2, hN3⟩ := hN
  intro r2 hr2
  by_cases e : r2 = rr.toNatClampNeg
  · subst e
    have em : upd mn rr.toNatClampNeg N rr.toNatClampNeg = N := if_pos rfl
    have ef : upd fi rr.toNatClampNeg v rr.toNatClampNeg = v := if_pos rfl
    have hlink : ∀ (dd : Nat) (x : Int32), lk (PV N) dp dd x → lk (BV rr.toNatClampNeg (upd mn rr.toNatClampNeg N)) (fun k => dp (k + 2400 - 300 * rr.toNatClampNeg)) dd (shf b x) := by
      intro dd x hx
      rcases hx with hx | ⟨q, g1, g2, g3⟩
      · left
        rw [shf, if_pos hx]
      · right
        have q1 := g2.1
        have q2 := g2.2
        have hxi : x.toInt = (q : Int) := by rw [g1]; exact nI_toInt (by omega)
        have hne : ¬ x = -1 := fun h => by
          rw [h] at hxi
          have : (-1 : Int32).toInt = -1 := by decide
          omega
        refine ⟨q + 300 * rr.toNatClampNeg - 2400, ?_, ⟨by omega, by rw [em]; omega⟩, ?_⟩
        · rw [shf, if_neg hne]
          apply Int32.toInt_inj.mp
          rw [add_i (z := x + b) rfl (by omega) (by omega), nI_toInt (by omega), hxi, hb]
          omega
        · show dp (q + 300 * rr.toNatClampNeg - 2400 + 2400 - 300 * rr.toNatClampNeg) = dd
          rw [show q + 300 * rr.toNatClampNeg - 2400 + 2400 - 300 * rr.toNatClampNeg = q by omega]
          exact g3
    refine ⟨by rw [em]; exact hN1, by rw [em]; exact hN2, fun k => dp (k + 2400 - 300 * rr.toNatClampNeg), fun k hk2 => ?_, ?_⟩
    · have k1 := hk2.1
      have k2 := hk2.2
      rw [em] at k2
      obtain ⟨m, hm⟩ : ∃ m, k = 300 * rr.toNatClampNeg + m := ⟨k - 300 * rr.toNatClampNeg, by omega⟩
      subst hm
      have hmN : m < N.toInt.toNat := by omega
      obtain ⟨g1, g2, g3, g4, g5⟩ := hC.2 m hmN
      obtain ⟨n1, n2, n3, n4, n5, n6⟩ := hN3 (2400 + m) ⟨by omega, by omega⟩
      have ed : 300 * rr.toNatClampNeg + m + 2400 - 300 * rr.toNatClampNeg = 2400 + m := by omega
      rw [g1, g2, g3, g4, g5]
      show _ ∧ dp (300 * rr.toNatClampNeg + m + 2400 - 300 * rr.toNatClampNeg) ≤ 8 ∧ _ ∧ lk _ _ (dp (300 * rr.toNatClampNeg + m + 2400 - 300 * rr.toNatClampNeg) + 1) _ ∧ lk _ _ (dp (300 * rr.toNatClampNeg + m + 2400 - 300 * rr.toNatClampNeg) + 1) _ ∧ lk _ _ (dp (300 * rr.toNatClampNeg + m + 2400 - 300 * rr.toNatClampNeg)) _
      rw [ed]
      exact ⟨by omega, n2, n3, hlink _ _ n4, hlink _ _ n5, hlink _ _ n6⟩
    · rw [ef, hv]
      by_cases h1 : z0 = -1
      · left; rw [if_pos h1]
      · right
        have h2 := hlink 0 z0 hk
        rw [shf, if_neg h1] at h2
        rw [if_neg h1]
        exact h2
  · have em : upd mn rr.toNatClampNeg N r2 = mn r2 := if_neg e
    have ef : upd fi rr.toNatClampNeg v r2 = fi r2 := if_neg e
    have eV : BV r2 (upd mn rr.toNatClampNeg N) = BV r2 mn := by
      funext k
      show (300 * r2 ≤ k ∧ (k : Int) < 300 * r2 + (upd mn rr.toNatClampNeg N r2).toInt) = _
      rw [em]
      rfl
    obtain ⟨h1, h2, dp2, h3, h4⟩ := hB r2 hr2
    rw [em, ef, eV]
    refine ⟨h1, h2, dp2, h3.same (fun k hk2 => ?_), h4⟩
    have k1 := hk2.1
    have k2 := hk2.2
    have hout : k < 300 * rr.toNatClampNeg ∨ 300 * rr.toNatClampNeg + N.toInt.toNat ≤ k := by omega
    obtain ⟨g1, g2, g3, g4, g5⟩ := hC.1 k hout
    obtain ⟨f1, f2, f3, f4, f5⟩ := hL k (by omega)
    exact ⟨g1.trans f1, g2.trans f2, g3.trans f3, g4.trans f4, g5.trans f5⟩


noncomputable abbrev rm_X10_rightX : Room := { frames := 0, cells := 0, slots := 0, locals := 0 }
set_option maxHeartbeats 1000000 in
set_option maxRecDepth 100000 in
theorem m_X10_rightX (l : Launch) (dC : Nat → ClassId) (dI : Nat → Nat → Nat) (sa : Nat → Nat) (g : Nat → Nat) (h0 : Nat) (b : Nat → Nat) (i : Nat → Int32) (a : Nat → Nat → Int32) (iz : Int32) (wh : Int32) (sz : Nat) (hwh : ¬ wh = 0) (h00 : (i 0) = 0) : CT l dC dI sa yX10_right wsX10_right rm_X10_rightX [.ref h0, .int iz, .int wh] (mw g h0 b i a) (tyM g) sz (fun (r : Option Value) (x0 : Int32) => ((r = some (.int 0) ∧ (iz = 0 ∧ x0 = wh)) ∨ (r = some (.int 1) ∧ (¬ iz = 0 ∧ x0 = 0))) ∧ (True)) (fun (x0 : Int32) => mw g h0 b (va_up i 0 x0) a) (fun _ => []) 0 0 := by
  refine CT.start (cc := cX10_right) (maxL := 3) (ret := (some .boolean)) (by decide) rfl (Nat.le_of_ble_eq_true rfl) ?_
  intro p e s m below meth c ls hst hP hK hD hev hS hl
  obtain ⟨hx, hb, hr, hml, hts, hown, hlocks, hin⟩ := hst
  have hown : s.vm.findClass RX10 = some m.cls := hown
  have hA : ∀ q : Nat, s.heap.size ≤ q → va_A (mw g h0 b i a) s.heap.size q := fun _ h => Or.inr h
  have hl : lv_has ls 3 [(0, .ref h0), (1, .int iz), (2, .int wh)] := hl
  refine lv_aload_n hx hb dX10_right_0 rfl (lv_at hl 0 rfl) ?_
  refine va_get (D := (dC, dI)) (ci := 10) (v := .int (i 0)) (C := RX10) (T := TX10) (N := 51) hx hb hts inw_X10_right_10 hown hK hP 0 rfl rfl 0 (by decide) (hts (.fieldLink RX10 105 "VatHouseModel" "thrown" "I") (List.mem_of_getElem? (i := 1) (by exact rfl))) (fun _ h9 => h9) rfl dX10_right_1 ?_
  refine lv_if_ne (tgt := 16) hx hb dX10_right_4 (by decide) (fun c_1 => ?_) (fun c_1 => ?_)
  · have nc_1 := ne_i c_1
    have lc_1 : (0 : Int32).toInt = 0 := by decide
    refine lv_aload_n hx hb dX10_right_16 rfl (lv_at hl 0 rfl) ?_
    refine va_get (D := (dC, dI)) (ci := 10) (v := .int (i 0)) (C := RX10) (T := TX10) (N := 51) hx hb hts inw_X10_right_10 hown hK hP 0 rfl rfl 0 (by decide) (hts (.fieldLink RX10 105 "VatHouseModel" "thrown" "I") (List.mem_of_getElem? (i := 1) (by exact rfl))) (fun _ h9 => h9) rfl dX10_right_17 ?_
    refine lv_if_ne (tgt := 27) hx hb dX10_right_20 (by decide) (fun c_2 => ?_) (fun c_2 => ?_)
    · have nc_2 := ne_i c_2
      have lc_2 : (0 : Int32).toInt = 0 := by decide
      refine lv_iconst (v := 0) hx hb dX10_right_27 (by decide) ?_
      exact M_z hx hb hr rfl hlocks ((i 0)) hP hD hK hS ⟨Or.inl ⟨rfl, (absurd h00 c_1)⟩, trivial⟩ (Nat.le_of_ble_eq_true rfl) (Nat.le_of_ble_eq_true rfl) dX10_right_28
    · have nc_2 := eq_i c_2
      have lc_2 : (0 : Int32).toInt = 0 := by decide
      refine lv_iconst (v := 1) hx hb dX10_right_23 (by decide) ?_
      refine lv_goto (tgt := 28) hx hb dX10_right_24 (by decide) ?_
      exact M_z hx hb hr rfl hlocks ((i 0)) hP hD hK hS ⟨Or.inr ⟨rfl, (absurd h00 c_1)⟩, trivial⟩ (Nat.le_of_ble_eq_true rfl) (Nat.le_of_ble_eq_true rfl) dX10_right_28
  · have nc_1 := eq_i c_1
    have lc_1 : (0 : Int32).toInt = 0 := by decide
    refine lv_iload_n hx hb dX10_right_7 rfl (lv_at hl 1 rfl) ?_
    refine lv_if_ne (tgt := 16) hx hb dX10_right_8 (by decide) (fun c_3 => ?_) (fun c_3 => ?_)
    · have nc_3 := ne_i c_3
      have lc_3 : (0 : Int32).toInt = 0 := by decide
      refine lv_aload_n hx hb dX10_right_16 rfl (lv_at hl 0 rfl) ?_
      refine va_get (D := (dC, dI)) (ci := 10) (v := .int (i 0)) (C := RX10) (T := TX10) (N := 51) hx hb hts inw_X10_right_10 hown hK hP 0 rfl rfl 0 (by decide) (hts (.fieldLink RX10 105 "VatHouseModel" "thrown" "I") (List.mem_of_getElem? (i := 1) (by exact rfl))) (fun _ h9 => h9) rfl dX10_right_17 ?_
      refine lv_if_ne (tgt := 27) hx hb dX10_right_20 (by decide) (fun c_4 => ?_) (fun c_4 => ?_)
      · have nc_4 := ne_i c_4
        have lc_4 : (0 : Int32).toInt = 0 := by decide
        refine lv_iconst (v := 0) hx hb dX10_right_27 (by decide) ?_
        exact M_z hx hb hr rfl hlocks ((i 0)) hP hD hK hS ⟨Or.inl ⟨rfl, (absurd h00 c_4)⟩, trivial⟩ (Nat.le_of_ble_eq_true rfl) (Nat.le_of_ble_eq_true rfl) dX10_right_28
      · have nc_4 := eq_i c_4
        have lc_4 : (0 : Int32).toInt = 0 := by decide
        refine lv_iconst (v := 1) hx hb dX10_right_23 (by decide) ?_
        refine lv_goto (tgt := 28) hx hb dX10_right_24 (by decide) ?_
        exact M_z hx hb hr rfl hlocks ((i 0)) hP hD hK hS ⟨Or.inr ⟨rfl, ⟨c_3, h00⟩⟩, trivial⟩ (Nat.le_of_ble_eq_true rfl) (Nat.le_of_ble_eq_true rfl) dX10_right_28
    · have nc_3 := eq_i c_3
      have lc_3 : (0 : Int32).toInt = 0 := by decide
      refine lv_aload_n hx hb dX10_right_11 rfl (lv_at hl 0 rfl) ?_
      refine lv_iload_n hx hb dX10_right_12 rfl (lv_at hl 2 rfl) ?_
      refine va_put (D := (dC, dI)) (ci := 10) (v := .int wh) (ty := .int) (C := RX10) (T := TX10) (N := 51) hx hb hts inw_X10_right_10 tyX10 tyX10_ok nmX10 hown hK hP hD hS 0 rfl rfl 0 (by decide) (hts (.fieldLink RX10 105 "VatHouseModel" "thrown" "I") (List.mem_of_getElem? (i := 1) (by exact rfl))) (fun _ h9 => h9) rfl (tyX10_ok 0 (by decide)) rfl rfl (Nat.le_of_ble_eq_true rfl) dX10_right_13 (fun H locs hP hD hS => ?_)
      have hP : va_P (dC, dI) vwCl (mw g h0 b (va_up i 0 wh) a) _ := hP
      have hD : va_D _ (mw g h0 b (va_up i 0 wh) a) := hD
      refine lv_aload_n hx hb dX10_right_16 rfl (lv_at hl 0 rfl) ?_
      refine va_get (D := (dC, dI)) (ci := 10) (v := .int wh) (C := RX10) (T := TX10) (N := 51) hx hb hts inw_X10_right_10 hown hK hP 0 rfl rfl 0 (by decide) (hts (.fieldLink RX10 105 "VatHouseModel" "thrown" "I") (List.mem_of_getElem? (i := 1) (by exact rfl))) (fun _ h9 => h9) rfl dX10_right_17 ?_
      refine lv_if_ne (tgt := 27) hx hb dX10_right_20 (by decide) (fun c_5 => ?_) (fun c_5 => ?_)
      · have nc_5 := ne_i c_5
        have lc_5 : (0 : Int32).toInt = 0 := by decide
        refine lv_iconst (v := 0) hx hb dX10_right_27 (by decide) ?_
        exact M_z hx hb hr rfl hlocks (wh) hP hD hK hS ⟨Or.inl ⟨rfl, ⟨c_3, rfl⟩⟩, trivial⟩ (Nat.le_of_ble_eq_true rfl) (Nat.le_of_ble_eq_true rfl) dX10_right_28
      · have nc_5 := eq_i c_5
        have lc_5 : (0 : Int32).toInt = 0 := by decide
        refine lv_iconst (v := 1) hx hb dX10_right_23 (by decide) ?_
        refine lv_goto (tgt := 28) hx hb dX10_right_24 (by decide) ?_
        exact M_z hx hb hr rfl hlocks (wh) hP hD hK hS ⟨Or.inr ⟨rfl, (absurd c_5 hwh)⟩, trivial⟩ (Nat.le_of_ble_eq_true rfl) (Nat.le_of_ble_eq_true rfl) dX10_right_28



