/-! the reader of the model: nodes come, links are set -/
noncomputable def PV (n : Int32) (k : Nat) : Prop := 2400 ≤ k ∧ (k : Int) < 2400 + n.toInt
noncomputable def PN (n : Int32) (dp : Nat → Nat) (kd on inr oth nx : Nat → Int32) : Prop := 0 ≤ n.toInt ∧ n.toInt ≤ 300 ∧ ND (PV n) dp kd on inr oth nx
noncomputable def LF (kd on inr oth nx kd' on' inr' oth' nx' : Nat → Int32) : Prop := ∀ k : Nat, k < 2400 → kd' k = kd k ∧ on' k = on k ∧ inr' k = inr k ∧ oth' k = oth k ∧ nx' k = nx k
noncomputable def AG (n : Int32) (dp dp' : Nat → Nat) : Prop := ∀ k : Nat, (k : Int) < 2400 + n.toInt → dp' k = dp k
noncomputable def PR (n n' : Int32) (dp dp' : Nat → Nat) (kd on inr oth nx kd' on' inr' oth' nx' : Nat → Int32) : Prop := AG n dp dp' ∧ PN n' dp' kd' on' inr' oth' nx' ∧ LF kd on inr oth nx kd' on' inr' oth' nx' ∧ n.toInt ≤ n'.toInt
section PRS
variable {n n' n'' : Int32} {dp dp' dp'' : Nat → Nat} {kd on inr oth nx kd' on' inr' oth' nx' kd'' on'' inr'' oth'' nx'' : Nat → Int32}
theorem PR.rf (h : PN n dp kd on inr oth nx) : PR n n dp dp kd on inr oth nx kd on inr oth nx := ⟨fun _ _ => rfl, h, fun _ _ => ⟨rfl, rfl, rfl, rfl, rfl⟩, Int.le_refl _⟩
theorem PR.tr (h : PR n n' dp dp' kd on inr oth nx kd' on' inr' oth' nx') (h' : PR n' n'' dp' dp'' kd' on' inr' oth' nx' kd'' on'' inr'' oth'' nx'') : PR n n'' dp dp'' kd on inr oth nx kd'' on'' inr'' oth'' nx'' := by
  refine ⟨fun k hk => (h'.1 k (by have := h.2.2.2; omega)).trans (h.1 k hk), h'.2.1, fun k hk => ?_, Int.le_trans h.2.2.2 h'.2.2.2⟩
  obtain ⟨a1, a2, a3, a4, a5⟩ := h.2.2.1 k hk
  obtain ⟨b1, b2, b3, b4, b5⟩ := h'.2.2.1 k hk
  exact ⟨b1.trans a1, b2.trans a2, b3.trans a3, b4.trans a4, b5.trans a5⟩
theorem PR.nd (h : PR n n' dp dp' kd on inr oth nx kd' on' inr' oth' nx') {q d : Nat} (hV : PV n q) (hd : dp q = d) : PV n' q ∧ dp' q = d := ⟨⟨hV.1, by have := hV.2; have := h.2.2.2; omega⟩, (h.1 q hV.2).trans hd⟩
theorem PR.lk (h : PR n n' dp dp' kd on inr oth nx kd' on' inr' oth' nx') {d : Nat} {x : Int32} (hx : lk (PV n) dp d x) : lk (PV n') dp' d x := by
  rcases hx with hx | ⟨q, h1, h2, h3⟩
  · exact Or.inl hx
  · exact Or.inr ⟨q, h1, h.nd h2 h3⟩
theorem up_hi {f : Nat → Int32} {x v : Int32} {q k : Nat} (hq : x = nI q) (hV : PV n q) (hn : n.toInt ≤ 300) (hk : k < 2400) : upd f x.toNatClampNeg v k = f k := by
  have h1 := hV.1
  have h2 := hV.2
  rw [hq, nI_clamp (by omega)]
  exact if_neg (by omega)
/-- a number of a node -/
theorem PN.set (h : PN n dp kd on inr oth nx) {q : Nat} {x lo hi : Int32} {y : Nat → Int32} (hq : x = nI q) (hV : PV n q) (hy : y = on ∨ ∃ v : Int32, lo.toInt ≤ v.toInt ∧ v.toInt ≤ hi.toInt ∧ y = upd on x.toNatClampNeg v) (hc : kd q = 0 ∨ kd q = 4 ∨ kd q = 5 ∨ kd q = 9 → 0 ≤ lo.toInt ∧ hi.toInt ≤ 5) : PR n n dp dp kd on inr oth nx kd y inr oth nx := by
  rcases hy with rfl | ⟨v, h1, h2, rfl⟩
  · exact PR.rf h
  refine ⟨fun _ _ => rfl, ⟨h.1, h.2.1, fun k hk => ?_⟩, fun k hk => ⟨rfl, up_hi hq hV h.2.1 hk, rfl, rfl, rfl⟩, Int.le_refl _⟩
  obtain ⟨g1, g2, g3, g4⟩ := h.2.2 k hk
  refine ⟨g1, g2, fun hc2 => ?_, g4⟩
  have hqc : x.toNatClampNeg = q := by rw [hq]; exact nI_clamp (by have := (h.2.2 q hV).1; omega)
  by_cases e : k = q
  · subst e
    have h3 := hc hc2
    have e2 : upd on x.toNatClampNeg v k = v := by rw [hqc]; exact if_pos rfl
    rw [e2]
    omega
  · have e2 : upd on x.toNatClampNeg v k = on k := by rw [hqc]; exact if_neg e
    rw [e2]
    exact g3 hc2
theorem up_at {f : Nat → Int32} {x v : Int32} {q : Nat} (hqc : x.toNatClampNeg = q) (k : Nat) : upd f x.toNatClampNeg v k = if k = q then v else f k := by
  rw [hqc]; rfl
theorem PN.inner (h : PN n dp kd on inr oth nx) {q : Nat} {x v : Int32} (hq : x = nI q) (hV : PV n q) (hv : lk (PV n) dp (dp q + 1) v) : PR n n dp dp kd on inr oth nx kd on (upd inr x.toNatClampNeg v) oth nx := by
  have hqc : x.toNatClampNeg = q := by rw [hq]; exact nI_clamp (by have := (h.2.2 q hV).1; omega)
  refine ⟨fun _ _ => rfl, ⟨h.1, h.2.1, fun k hk => ?_⟩, fun k hk => ⟨rfl, rfl, up_hi hq hV h.2.1 hk, rfl, rfl⟩, Int.le_refl _⟩
  obtain ⟨g1, g2, g3, g4, g5⟩ := h.2.2 k hk
  refine ⟨g1, g2, g3, ?_, g5⟩
  rw [up_at hqc]
  by_cases e : k = q
  · subst e; rw [if_pos rfl]; exact hv
  · rw [if_neg e]; exact g4
theorem PN.other (h : PN n dp kd on inr oth nx) {q : Nat} {x v : Int32} (hq : x = nI q) (hV : PV n q) (hv : lk (PV n) dp (dp q + 1) v) : PR n n dp dp kd on inr oth nx kd on inr (upd oth x.toNatClampNeg v) nx := by
  have hqc : x.toNatClampNeg = q := by rw [hq]; exact nI_clamp (by have := (h.2.2 q hV).1; omega)
  refine ⟨fun _ _ => rfl, ⟨h.1, h.2.1, fun k hk => ?_⟩, fun k hk => ⟨rfl, rfl, rfl, up_hi hq hV h.2.1 hk, rfl⟩, Int.le_refl _⟩
  obtain ⟨g1, g2, g3, g4, g5, g6⟩ := h.2.2 k hk
  refine ⟨g1, g2, g3, g4, ?_, g6⟩
  rw [up_at hqc]
  by_cases e : k = q
  · subst e; rw [if_pos rfl]; exact hv
  · rw [if_neg e]; exact g5
theorem PN.next (h : PN n dp kd on inr oth nx) {q : Nat} {x v : Int32} (hq : x = nI q) (hV : PV n q) (hv : lk (PV n) dp (dp q) v) : PR n n dp dp kd on inr oth nx kd on inr oth (upd nx x.toNatClampNeg v) := by
  have hqc : x.toNatClampNeg = q := by rw [hq]; exact nI_clamp (by have := (h.2.2 q hV).1; omega)
  refine ⟨fun _ _ => rfl, ⟨h.1, h.2.1, fun k hk => ?_⟩, fun k hk => ⟨rfl, rfl, rfl, rfl, up_hi hq hV h.2.1 hk⟩, Int.le_refl _⟩
  obtain ⟨g1, g2, g3, g4, g5, g6⟩ := h.2.2 k hk
  refine ⟨g1, g2, g3, g4, g5, ?_⟩
  rw [up_at hqc]
  by_cases e : k = q
  · subst e; rw [if_pos rfl]; exact hv
  · rw [if_neg e]; exact g6
/-- a new node -/
theorem PN.new (h : PN n dp kd on inr oth nx) {bl : Nat} (hbl : bl ≤ 8) {x z w : Int32} (hx : x = 2400 + n) (hz : z = n + 1) (hn : n.toInt ≠ 300) :
    ∃ q : Nat, x = nI q ∧ PV z q ∧ va_up dp q bl q = bl ∧ n.toInt < z.toInt ∧ PR n z dp (va_up dp q bl) kd on inr oth nx (upd kd x.toNatClampNeg w) (upd on x.toNatClampNeg 0) (upd inr x.toNatClampNeg (-1)) (upd oth x.toNatClampNeg (-1)) (upd nx x.toNatClampNeg (-1)) := by
  obtain ⟨h1, h2, h3⟩ := h
  have e1 : (1 : Int32).toInt = 1 := by decide
  have e24 : (2400 : Int32).toInt = 2400 := by decide
  have ez := add_i hz (by omega) (by omega)
  have ex := add_i hx (by omega) (by omega)
  rw [e1] at ez
  rw [e24] at ex
  obtain ⟨q, hq, hxq⟩ := nI_of (x := x) (by rw [Int32.lt_iff_toInt_lt]; have : (0 : Int32).toInt = 0 := by decide
                                            omega)
  have hqi : (q : Int) = 2400 + n.toInt := by rw [hxq, nI_toInt hq] at ex; exact ex
  have hqc : x.toNatClampNeg = q := by rw [hxq]; exact nI_clamp hq
  have hVq : PV z q := ⟨by omega, by omega⟩
  refine ⟨q, hxq, hVq, va_up_self _ _ _, by omega, fun k hk => va_up_ne _ _ (by omega), ⟨by omega, by omega, fun k hk => ?_⟩, fun k hk => ?_, by omega⟩
  · rw [up_at hqc, up_at hqc, up_at hqc, up_at hqc, up_at hqc]
    by_cases e : k = q
    · subst e
      rw [va_up_self, if_pos rfl, if_pos rfl, if_pos rfl, if_pos rfl, if_pos rfl]
      exact ⟨by omega, hbl, fun _ => by decide, Or.inl rfl, Or.inl rfl, Or.inl rfl⟩
    · rw [va_up_ne _ _ e, if_neg e, if_neg e, if_neg e, if_neg e, if_neg e]
      have hk0 : PV n k := ⟨hk.1, by have := hk.2; omega⟩
      have lk2 : ∀ (d : Nat) (y : Int32), lk (PV n) dp d y → lk (PV z) (va_up dp q bl) d y := by
        intro d y hy
        rcases hy with hy | ⟨k2, g1, g2, g3⟩
        · exact Or.inl hy
        · have hne : k2 ≠ q := by have := g2.2; omega
          exact Or.inr ⟨k2, g1, ⟨g2.1, by have := g2.2; omega⟩, by rw [va_up_ne _ _ hne]; exact g3⟩
      obtain ⟨g1, g2, g3, g4, g5, g6⟩ := h3 k hk0
      exact ⟨g1, g2, g3, lk2 _ _ g4, lk2 _ _ g5, lk2 _ _ g6⟩
  · have hne : k ≠ q := by omega
    rw [up_at hqc, up_at hqc, up_at hqc, up_at hqc, up_at hqc, if_neg hne, if_neg hne, if_neg hne, if_neg hne, if_neg hne]
    exact ⟨rfl, rfl, rfl, rfl, rfl⟩
end PRS
theorem lenS_le : ∀ q : Nat, q ≤ 18 → lenS.getD q 0 ≤ 6 := by decide +kernel

theorem tab_out11 {x : Int32} (h0 : ¬ x = 0) (h1 : ¬ x = 1) (h2 : ¬ x = 2) (h3 : ¬ x = 3) (h4 : ¬ x = 4) (h5 : ¬ x = 5) (h6 : ¬ x = 6) (h7 : ¬ x = 7) (h8 : ¬ x = 8) (h9 : ¬ x = 9) (h10 : ¬ x = 10) : x.toInt < 0 ∨ 10 < x.toInt := by
  have e0 : x.toInt ≠ 0 := fun h => h0 (Int32.toInt_inj.mp h)
  have e1 : x.toInt ≠ 1 := fun h => h1 (Int32.toInt_inj.mp h)
  have e2 : x.toInt ≠ 2 := fun h => h2 (Int32.toInt_inj.mp h)
  have e3 : x.toInt ≠ 3 := fun h => h3 (Int32.toInt_inj.mp h)
  have e4 : x.toInt ≠ 4 := fun h => h4 (Int32.toInt_inj.mp h)
  have e5 : x.toInt ≠ 5 := fun h => h5 (Int32.toInt_inj.mp h)
  have e6 : x.toInt ≠ 6 := fun h => h6 (Int32.toInt_inj.mp h)
  have e7 : x.toInt ≠ 7 := fun h => h7 (Int32.toInt_inj.mp h)
  have e8 : x.toInt ≠ 8 := fun h => h8 (Int32.toInt_inj.mp h)
  have e9 : x.toInt ≠ 9 := fun h => h9 (Int32.toInt_inj.mp h)
  have e10 : x.toInt ≠ 10 := fun h => h10 (Int32.toInt_inj.mp h)
  omega

theorem pu_isLetter (l : Launch) (dC : Nat → ClassId) (dI : Nat → Nat → Nat) (sa : Nat → Nat) (x : Int32) : ∃ z : Int32, ((z = 0 ∧ isL x = false) ∨ (z = 1 ∧ isL x = true)) ∧ ∀ sz : Nat, PU l dC dI sa yX10_isLetter wsX10_isLetter (rmJ 0) [.int x] sz (some (.int z)) := by
  by_cases h1 : x < 97
  · refine ⟨0, Or.inl ⟨rfl, isL_0 h1⟩, fun sz => ?_⟩
    refine CT.start (cc := cX10_isLetter) (maxL := 1) (ret := (some .boolean)) (by decide) rfl (Nat.le_of_ble_eq_true rfl) ?_
    intro p e s m below meth c ls hst hP hK hD hev hS hl
    obtain ⟨hx, hb, hr, hml, hts, hown, hlocks, hin⟩ := hst
    have hl : lv_has ls 1 [(0, .int x)] := hl
    refine lv_iload_n hx hb dX10_isLetter_0 rfl (lv_at hl 0 rfl) ?_
    refine lv_bipush (v := 97) hx hb dX10_isLetter_1 (by decide) ?_
    refine lv_icmp_lt (tgt := 16) hx hb dX10_isLetter_3 (by decide) (fun _ => ?_) (fun c1 => absurd h1 c1)
    refine lv_iconst (v := 0) hx hb dX10_isLetter_16 (by decide) ?_
    exact en_z hx hb hr rfl hlocks hP hD hK hS () rfl [] [] rfl rfl rfl (Nat.le_of_ble_eq_true rfl) (Nat.le_of_ble_eq_true rfl) dX10_isLetter_17
  by_cases h2 : 122 < x
  · refine ⟨0, Or.inl ⟨rfl, isL_1 h2⟩, fun sz => ?_⟩
    refine CT.start (cc := cX10_isLetter) (maxL := 1) (ret := (some .boolean)) (by decide) rfl (Nat.le_of_ble_eq_true rfl) ?_
    intro p e s m below meth c ls hst hP hK hD hev hS hl
    obtain ⟨hx, hb, hr, hml, hts, hown, hlocks, hin⟩ := hst
    have hl : lv_has ls 1 [(0, .int x)] := hl
    refine lv_iload_n hx hb dX10_isLetter_0 rfl (lv_at hl 0 rfl) ?_
    refine lv_bipush (v := 97) hx hb dX10_isLetter_1 (by decide) ?_
    refine lv_icmp_lt (tgt := 16) hx hb dX10_isLetter_3 (by decide) (fun c1 => absurd c1 h1) (fun _ => ?_)
    refine lv_iload_n hx hb dX10_isLetter_6 rfl (lv_at hl 0 rfl) ?_
    refine lv_bipush (v := 122) hx hb dX10_isLetter_7 (by decide) ?_
    refine lv_icmp_gt (tgt := 16) hx hb dX10_isLetter_9 (by decide) (fun _ => ?_) (fun c1 => absurd h2 c1)
    refine lv_iconst (v := 0) hx hb dX10_isLetter_16 (by decide) ?_
    exact en_z hx hb hr rfl hlocks hP hD hK hS () rfl [] [] rfl rfl rfl (Nat.le_of_ble_eq_true rfl) (Nat.le_of_ble_eq_true rfl) dX10_isLetter_17
  · refine ⟨1, Or.inr ⟨rfl, isL_2 h1 h2⟩, fun sz => ?_⟩
    refine CT.start (cc := cX10_isLetter) (maxL := 1) (ret := (some .boolean)) (by decide) rfl (Nat.le_of_ble_eq_true rfl) ?_
    intro p e s m below meth c ls hst hP hK hD hev hS hl
    obtain ⟨hx, hb, hr, hml, hts, hown, hlocks, hin⟩ := hst
    have hl : lv_has ls 1 [(0, .int x)] := hl
    refine lv_iload_n hx hb dX10_isLetter_0 rfl (lv_at hl 0 rfl) ?_
    refine lv_bipush (v := 97) hx hb dX10_isLetter_1 (by decide) ?_
    refine lv_icmp_lt (tgt := 16) hx hb dX10_isLetter_3 (by decide) (fun c1 => absurd c1 h1) (fun _ => ?_)
    refine lv_iload_n hx hb dX10_isLetter_6 rfl (lv_at hl 0 rfl) ?_
    refine lv_bipush (v := 122) hx hb dX10_isLetter_7 (by decide) ?_
    refine lv_icmp_gt (tgt := 16) hx hb dX10_isLetter_9 (by decide) (fun c1 => absurd c1 h2) (fun _ => ?_)
    refine lv_iconst (v := 1) hx hb dX10_isLetter_12 (by decide) ?_
    refine lv_goto (tgt := 17) hx hb dX10_isLetter_13 (by decide) ?_
    exact en_z hx hb hr rfl hlocks hP hD hK hS () rfl [] [] rfl rfl rfl (Nat.le_of_ble_eq_true rfl) (Nat.le_of_ble_eq_true rfl) dX10_isLetter_17

theorem pu_isDigit (l : Launch) (dC : Nat → ClassId) (dI : Nat → Nat → Nat) (sa : Nat → Nat) (x : Int32) : ∃ z : Int32, ((z = 0 ∧ isD x = false) ∨ (z = 1 ∧ isD x = true)) ∧ ∀ sz : Nat, PU l dC dI sa yX10_isDigit wsX10_isDigit (rmJ 0) [.int x] sz (some (.int z)) := by
  by_cases h1 : x < 48
  · refine ⟨0, Or.inl ⟨rfl, isD_0 h1⟩, fun sz => ?_⟩
    refine CT.start (cc := cX10_isDigit) (maxL := 1) (ret := (some .boolean)) (by decide) rfl (Nat.le_of_ble_eq_true rfl) ?_
    intro p e s m below meth c ls hst hP hK hD hev hS hl
    obtain ⟨hx, hb, hr, hml, hts, hown, hlocks, hin⟩ := hst
    have hl : lv_has ls 1 [(0, .int x)] := hl
    refine lv_iload_n hx hb dX10_isDigit_0 rfl (lv_at hl 0 rfl) ?_
    refine lv_bipush (v := 48) hx hb dX10_isDigit_1 (by decide) ?_
    refine lv_icmp_lt (tgt := 16) hx hb dX10_isDigit_3 (by decide) (fun _ => ?_) (fun c1 => absurd h1 c1)
    refine lv_iconst (v := 0) hx hb dX10_isDigit_16 (by decide) ?_
    exact en_z hx hb hr rfl hlocks hP hD hK hS () rfl [] [] rfl rfl rfl (Nat.le_of_ble_eq_true rfl) (Nat.le_of_ble_eq_true rfl) dX10_isDigit_17
  by_cases h2 : 57 < x
  · refine ⟨0, Or.inl ⟨rfl, isD_1 h2⟩, fun sz => ?_⟩
    refine CT.start (cc := cX10_isDigit) (maxL := 1) (ret := (some .boolean)) (by decide) rfl (Nat.le_of_ble_eq_true rfl) ?_
    intro p e s m below meth c ls hst hP hK hD hev hS hl
    obtain ⟨hx, hb, hr, hml, hts, hown, hlocks, hin⟩ := hst
    have hl : lv_has ls 1 [(0, .int x)] := hl
    refine lv_iload_n hx hb dX10_isDigit_0 rfl (lv_at hl 0 rfl) ?_
    refine lv_bipush (v := 48) hx hb dX10_isDigit_1 (by decide) ?_
    refine lv_icmp_lt (tgt := 16) hx hb dX10_isDigit_3 (by decide) (fun c1 => absurd c1 h1) (fun _ => ?_)
    refine lv_iload_n hx hb dX10_isDigit_6 rfl (lv_at hl 0 rfl) ?_
    refine lv_bipush (v := 57) hx hb dX10_isDigit_7 (by decide) ?_
    refine lv_icmp_gt (tgt := 16) hx hb dX10_isDigit_9 (by decide) (fun _ => ?_) (fun c1 => absurd h2 c1)
    refine lv_iconst (v := 0) hx hb dX10_isDigit_16 (by decide) ?_
    exact en_z hx hb hr rfl hlocks hP hD hK hS () rfl [] [] rfl rfl rfl (Nat.le_of_ble_eq_true rfl) (Nat.le_of_ble_eq_true rfl) dX10_isDigit_17
  · refine ⟨1, Or.inr ⟨rfl, isD_2 h1 h2⟩, fun sz => ?_⟩
    refine CT.start (cc := cX10_isDigit) (maxL := 1) (ret := (some .boolean)) (by decide) rfl (Nat.le_of_ble_eq_true rfl) ?_
    intro p e s m below meth c ls hst hP hK hD hev hS hl
    obtain ⟨hx, hb, hr, hml, hts, hown, hlocks, hin⟩ := hst
    have hl : lv_has ls 1 [(0, .int x)] := hl
    refine lv_iload_n hx hb dX10_isDigit_0 rfl (lv_at hl 0 rfl) ?_
    refine lv_bipush (v := 48) hx hb dX10_isDigit_1 (by decide) ?_
    refine lv_icmp_lt (tgt := 16) hx hb dX10_isDigit_3 (by decide) (fun c1 => absurd c1 h1) (fun _ => ?_)
    refine lv_iload_n hx hb dX10_isDigit_6 rfl (lv_at hl 0 rfl) ?_
    refine lv_bipush (v := 57) hx hb dX10_isDigit_7 (by decide) ?_
    refine lv_icmp_gt (tgt := 16) hx hb dX10_isDigit_9 (by decide) (fun c1 => absurd c1 h2) (fun _ => ?_)
    refine lv_iconst (v := 1) hx hb dX10_isDigit_12 (by decide) ?_
    refine lv_goto (tgt := 17) hx hb dX10_isDigit_13 (by decide) ?_
    exact en_z hx hb hr rfl hlocks hP hD hK hS () rfl [] [] rfl rfl rfl (Nat.le_of_ble_eq_true rfl) (Nat.le_of_ble_eq_true rfl) dX10_isDigit_17

theorem pu_nameOf_0 (l : Launch) (dC : Nat → ClassId) (dI : Nat → Nat → Nat) (sa : Nat → Nat) (sz : Nat) : PU l dC dI sa yX10_nameOf wsX10_nameOf (rmJ 0) [.int 0] sz (some (.ref (sa (5 + 0)))) := by
  refine CT.start (cc := cX10_nameOf) (maxL := 1) (ret := (some (.object "java/lang/String"))) (by decide) rfl (Nat.le_of_ble_eq_true rfl) ?_
  intro p e s m below meth c ls hst hP hK hD hev hS hl
  obtain ⟨hx, hb, hr, hml, hts, hown, hlocks, hin⟩ := hst
  have hown : s.vm.findClass RX10 = some m.cls := hown
  have hl : lv_has ls 1 [(0, .int 0)] := hl
  refine lv_iload_n hx hb dX10_nameOf_0 rfl (lv_at hl 0 rfl) ?_
  refine lv_tableIn (tgt := 88) hx hb dX10_nameOf_1 (by decide) (by decide) rfl (by decide) ?_
  refine va_ldcS (own := RX10) (tx := "dip") (index := 174) (q := sa (5 + 0)) hx hb hown (hev.2.2.2.2.2.2.2.2 0 (RX10, 174, "dip") rfl) dX10_nameOf_88 ?_
  exact en_a hx hb hr (Or.inl ⟨_, rfl⟩) (Or.inr ⟨_, rfl⟩) hlocks hP hD hK hS () rfl [] [] rfl rfl rfl (Nat.le_of_ble_eq_true rfl) (Nat.le_of_ble_eq_true rfl) dX10_nameOf_90

theorem pu_nameOf_1 (l : Launch) (dC : Nat → ClassId) (dI : Nat → Nat → Nat) (sa : Nat → Nat) (sz : Nat) : PU l dC dI sa yX10_nameOf wsX10_nameOf (rmJ 0) [.int 1] sz (some (.ref (sa (5 + 1)))) := by
  refine CT.start (cc := cX10_nameOf) (maxL := 1) (ret := (some (.object "java/lang/String"))) (by decide) rfl (Nat.le_of_ble_eq_true rfl) ?_
  intro p e s m below meth c ls hst hP hK hD hev hS hl
  obtain ⟨hx, hb, hr, hml, hts, hown, hlocks, hin⟩ := hst
  have hown : s.vm.findClass RX10 = some m.cls := hown
  have hl : lv_has ls 1 [(0, .int 1)] := hl
  refine lv_iload_n hx hb dX10_nameOf_0 rfl (lv_at hl 0 rfl) ?_
  refine lv_tableIn (tgt := 91) hx hb dX10_nameOf_1 (by decide) (by decide) rfl (by decide) ?_
  refine va_ldcS (own := RX10) (tx := "air") (index := 176) (q := sa (5 + 1)) hx hb hown (hev.2.2.2.2.2.2.2.2 1 (RX10, 176, "air") rfl) dX10_nameOf_91 ?_
  exact en_a hx hb hr (Or.inl ⟨_, rfl⟩) (Or.inr ⟨_, rfl⟩) hlocks hP hD hK hS () rfl [] [] rfl rfl rfl (Nat.le_of_ble_eq_true rfl) (Nat.le_of_ble_eq_true rfl) dX10_nameOf_93

theorem pu_nameOf_2 (l : Launch) (dC : Nat → ClassId) (dI : Nat → Nat → Nat) (sa : Nat → Nat) (sz : Nat) : PU l dC dI sa yX10_nameOf wsX10_nameOf (rmJ 0) [.int 2] sz (some (.ref (sa (5 + 2)))) := by
  refine CT.start (cc := cX10_nameOf) (maxL := 1) (ret := (some (.object "java/lang/String"))) (by decide) rfl (Nat.le_of_ble_eq_true rfl) ?_
  intro p e s m below meth c ls hst hP hK hD hev hS hl
  obtain ⟨hx, hb, hr, hml, hts, hown, hlocks, hin⟩ := hst
  have hown : s.vm.findClass RX10 = some m.cls := hown
  have hl : lv_has ls 1 [(0, .int 2)] := hl
  refine lv_iload_n hx hb dX10_nameOf_0 rfl (lv_at hl 0 rfl) ?_
  refine lv_tableIn (tgt := 94) hx hb dX10_nameOf_1 (by decide) (by decide) rfl (by decide) ?_
  refine va_ldcS (own := RX10) (tx := "wash") (index := 178) (q := sa (5 + 2)) hx hb hown (hev.2.2.2.2.2.2.2.2 2 (RX10, 178, "wash") rfl) dX10_nameOf_94 ?_
  exact en_a hx hb hr (Or.inl ⟨_, rfl⟩) (Or.inr ⟨_, rfl⟩) hlocks hP hD hK hS () rfl [] [] rfl rfl rfl (Nat.le_of_ble_eq_true rfl) (Nat.le_of_ble_eq_true rfl) dX10_nameOf_96

theorem pu_nameOf_3 (l : Launch) (dC : Nat → ClassId) (dI : Nat → Nat → Nat) (sa : Nat → Nat) (sz : Nat) : PU l dC dI sa yX10_nameOf wsX10_nameOf (rmJ 0) [.int 3] sz (some (.ref (sa (5 + 3)))) := by
  refine CT.start (cc := cX10_nameOf) (maxL := 1) (ret := (some (.object "java/lang/String"))) (by decide) rfl (Nat.le_of_ble_eq_true rfl) ?_
  intro p e s m below meth c ls hst hP hK hD hev hS hl
  obtain ⟨hx, hb, hr, hml, hts, hown, hlocks, hin⟩ := hst
  have hown : s.vm.findClass RX10 = some m.cls := hown
  have hl : lv_has ls 1 [(0, .int 3)] := hl
  refine lv_iload_n hx hb dX10_nameOf_0 rfl (lv_at hl 0 rfl) ?_
  refine lv_tableIn (tgt := 97) hx hb dX10_nameOf_1 (by decide) (by decide) rfl (by decide) ?_
  refine va_ldcS (own := RX10) (tx := "rest") (index := 180) (q := sa (5 + 3)) hx hb hown (hev.2.2.2.2.2.2.2.2 3 (RX10, 180, "rest") rfl) dX10_nameOf_97 ?_
  exact en_a hx hb hr (Or.inl ⟨_, rfl⟩) (Or.inr ⟨_, rfl⟩) hlocks hP hD hK hS () rfl [] [] rfl rfl rfl (Nat.le_of_ble_eq_true rfl) (Nat.le_of_ble_eq_true rfl) dX10_nameOf_99

theorem pu_nameOf_4 (l : Launch) (dC : Nat → ClassId) (dI : Nat → Nat → Nat) (sa : Nat → Nat) (sz : Nat) : PU l dC dI sa yX10_nameOf wsX10_nameOf (rmJ 0) [.int 4] sz (some (.ref (sa (5 + 4)))) := by
  refine CT.start (cc := cX10_nameOf) (maxL := 1) (ret := (some (.object "java/lang/String"))) (by decide) rfl (Nat.le_of_ble_eq_true rfl) ?_
  intro p e s m below meth c ls hst hP hK hD hev hS hl
  obtain ⟨hx, hb, hr, hml, hts, hown, hlocks, hin⟩ := hst
  have hown : s.vm.findClass RX10 = some m.cls := hown
  have hl : lv_has ls 1 [(0, .int 4)] := hl
  refine lv_iload_n hx hb dX10_nameOf_0 rfl (lv_at hl 0 rfl) ?_
  refine lv_tableIn (tgt := 100) hx hb dX10_nameOf_1 (by decide) (by decide) rfl (by decide) ?_
  refine va_ldcS (own := RX10) (tx := "feed") (index := 182) (q := sa (5 + 4)) hx hb hown (hev.2.2.2.2.2.2.2.2 4 (RX10, 182, "feed") rfl) dX10_nameOf_100 ?_
  exact en_a hx hb hr (Or.inl ⟨_, rfl⟩) (Or.inr ⟨_, rfl⟩) hlocks hP hD hK hS () rfl [] [] rfl rfl rfl (Nat.le_of_ble_eq_true rfl) (Nat.le_of_ble_eq_true rfl) dX10_nameOf_102

theorem pu_nameOf_5 (l : Launch) (dC : Nat → ClassId) (dI : Nat → Nat → Nat) (sa : Nat → Nat) (sz : Nat) : PU l dC dI sa yX10_nameOf wsX10_nameOf (rmJ 0) [.int 5] sz (some (.ref (sa (5 + 5)))) := by
  refine CT.start (cc := cX10_nameOf) (maxL := 1) (ret := (some (.object "java/lang/String"))) (by decide) rfl (Nat.le_of_ble_eq_true rfl) ?_
  intro p e s m below meth c ls hst hP hK hD hev hS hl
  obtain ⟨hx, hb, hr, hml, hts, hown, hlocks, hin⟩ := hst
  have hown : s.vm.findClass RX10 = some m.cls := hown
  have hl : lv_has ls 1 [(0, .int 5)] := hl
  refine lv_iload_n hx hb dX10_nameOf_0 rfl (lv_at hl 0 rfl) ?_
  refine lv_tableIn (tgt := 103) hx hb dX10_nameOf_1 (by decide) (by decide) rfl (by decide) ?_
  refine va_ldcS (own := RX10) (tx := "lime") (index := 184) (q := sa (5 + 5)) hx hb hown (hev.2.2.2.2.2.2.2.2 5 (RX10, 184, "lime") rfl) dX10_nameOf_103 ?_
  exact en_a hx hb hr (Or.inl ⟨_, rfl⟩) (Or.inr ⟨_, rfl⟩) hlocks hP hD hK hS () rfl [] [] rfl rfl rfl (Nat.le_of_ble_eq_true rfl) (Nat.le_of_ble_eq_true rfl) dX10_nameOf_105

theorem pu_nameOf_6 (l : Launch) (dC : Nat → ClassId) (dI : Nat → Nat → Nat) (sa : Nat → Nat) (sz : Nat) : PU l dC dI sa yX10_nameOf wsX10_nameOf (rmJ 0) [.int 6] sz (some (.ref (sa (5 + 6)))) := by
  refine CT.start (cc := cX10_nameOf) (maxL := 1) (ret := (some (.object "java/lang/String"))) (by decide) rfl (Nat.le_of_ble_eq_true rfl) ?_
  intro p e s m below meth c ls hst hP hK hD hev hS hl
  obtain ⟨hx, hb, hr, hml, hts, hown, hlocks, hin⟩ := hst
  have hown : s.vm.findClass RX10 = some m.cls := hown
  have hl : lv_has ls 1 [(0, .int 6)] := hl
  refine lv_iload_n hx hb dX10_nameOf_0 rfl (lv_at hl 0 rfl) ?_
  refine lv_tableIn (tgt := 106) hx hb dX10_nameOf_1 (by decide) (by decide) rfl (by decide) ?_
  refine va_ldcS (own := RX10) (tx := "fail") (index := 186) (q := sa (5 + 6)) hx hb hown (hev.2.2.2.2.2.2.2.2 6 (RX10, 186, "fail") rfl) dX10_nameOf_106 ?_
  exact en_a hx hb hr (Or.inl ⟨_, rfl⟩) (Or.inr ⟨_, rfl⟩) hlocks hP hD hK hS () rfl [] [] rfl rfl rfl (Nat.le_of_ble_eq_true rfl) (Nat.le_of_ble_eq_true rfl) dX10_nameOf_108

theorem pu_nameOf_7 (l : Launch) (dC : Nat → ClassId) (dI : Nat → Nat → Nat) (sa : Nat → Nat) (sz : Nat) : PU l dC dI sa yX10_nameOf wsX10_nameOf (rmJ 0) [.int 7] sz (some (.ref (sa (5 + 7)))) := by
  refine CT.start (cc := cX10_nameOf) (maxL := 1) (ret := (some (.object "java/lang/String"))) (by decide) rfl (Nat.le_of_ble_eq_true rfl) ?_
  intro p e s m below meth c ls hst hP hK hD hev hS hl
  obtain ⟨hx, hb, hr, hml, hts, hown, hlocks, hin⟩ := hst
  have hown : s.vm.findClass RX10 = some m.cls := hown
  have hl : lv_has ls 1 [(0, .int 7)] := hl
  refine lv_iload_n hx hb dX10_nameOf_0 rfl (lv_at hl 0 rfl) ?_
  refine lv_tableIn (tgt := 109) hx hb dX10_nameOf_1 (by decide) (by decide) rfl (by decide) ?_
  refine va_ldcS (own := RX10) (tx := "times") (index := 188) (q := sa (5 + 7)) hx hb hown (hev.2.2.2.2.2.2.2.2 7 (RX10, 188, "times") rfl) dX10_nameOf_109 ?_
  exact en_a hx hb hr (Or.inl ⟨_, rfl⟩) (Or.inr ⟨_, rfl⟩) hlocks hP hD hK hS () rfl [] [] rfl rfl rfl (Nat.le_of_ble_eq_true rfl) (Nat.le_of_ble_eq_true rfl) dX10_nameOf_111

theorem pu_nameOf_8 (l : Launch) (dC : Nat → ClassId) (dI : Nat → Nat → Nat) (sa : Nat → Nat) (sz : Nat) : PU l dC dI sa yX10_nameOf wsX10_nameOf (rmJ 0) [.int 8] sz (some (.ref (sa (5 + 8)))) := by
  refine CT.start (cc := cX10_nameOf) (maxL := 1) (ret := (some (.object "java/lang/String"))) (by decide) rfl (Nat.le_of_ble_eq_true rfl) ?_
  intro p e s m below meth c ls hst hP hK hD hev hS hl
  obtain ⟨hx, hb, hr, hml, hts, hown, hlocks, hin⟩ := hst
  have hown : s.vm.findClass RX10 = some m.cls := hown
  have hl : lv_has ls 1 [(0, .int 8)] := hl
  refine lv_iload_n hx hb dX10_nameOf_0 rfl (lv_at hl 0 rfl) ?_
  refine lv_tableIn (tgt := 112) hx hb dX10_nameOf_1 (by decide) (by decide) rfl (by decide) ?_
  refine va_ldcS (own := RX10) (tx := "until") (index := 190) (q := sa (5 + 8)) hx hb hown (hev.2.2.2.2.2.2.2.2 8 (RX10, 190, "until") rfl) dX10_nameOf_112 ?_
  exact en_a hx hb hr (Or.inl ⟨_, rfl⟩) (Or.inr ⟨_, rfl⟩) hlocks hP hD hK hS () rfl [] [] rfl rfl rfl (Nat.le_of_ble_eq_true rfl) (Nat.le_of_ble_eq_true rfl) dX10_nameOf_114

theorem pu_nameOf_9 (l : Launch) (dC : Nat → ClassId) (dI : Nat → Nat → Nat) (sa : Nat → Nat) (sz : Nat) : PU l dC dI sa yX10_nameOf wsX10_nameOf (rmJ 0) [.int 9] sz (some (.ref (sa (5 + 9)))) := by
  refine CT.start (cc := cX10_nameOf) (maxL := 1) (ret := (some (.object "java/lang/String"))) (by decide) rfl (Nat.le_of_ble_eq_true rfl) ?_
  intro p e s m below meth c ls hst hP hK hD hev hS hl
  obtain ⟨hx, hb, hr, hml, hts, hown, hlocks, hin⟩ := hst
  have hown : s.vm.findClass RX10 = some m.cls := hown
  have hl : lv_has ls 1 [(0, .int 9)] := hl
  refine lv_iload_n hx hb dX10_nameOf_0 rfl (lv_at hl 0 rfl) ?_
  refine lv_tableIn (tgt := 115) hx hb dX10_nameOf_1 (by decide) (by decide) rfl (by decide) ?_
  refine va_ldcS (own := RX10) (tx := "if") (index := 192) (q := sa (5 + 9)) hx hb hown (hev.2.2.2.2.2.2.2.2 9 (RX10, 192, "if") rfl) dX10_nameOf_115 ?_
  exact en_a hx hb hr (Or.inl ⟨_, rfl⟩) (Or.inr ⟨_, rfl⟩) hlocks hP hD hK hS () rfl [] [] rfl rfl rfl (Nat.le_of_ble_eq_true rfl) (Nat.le_of_ble_eq_true rfl) dX10_nameOf_117

theorem pu_nameOf_10 (l : Launch) (dC : Nat → ClassId) (dI : Nat → Nat → Nat) (sa : Nat → Nat) (sz : Nat) : PU l dC dI sa yX10_nameOf wsX10_nameOf (rmJ 0) [.int 10] sz (some (.ref (sa (5 + 10)))) := by
  refine CT.start (cc := cX10_nameOf) (maxL := 1) (ret := (some (.object "java/lang/String"))) (by decide) rfl (Nat.le_of_ble_eq_true rfl) ?_
  intro p e s m below meth c ls hst hP hK hD hev hS hl
  obtain ⟨hx, hb, hr, hml, hts, hown, hlocks, hin⟩ := hst
  have hown : s.vm.findClass RX10 = some m.cls := hown
  have hl : lv_has ls 1 [(0, .int 10)] := hl
  refine lv_iload_n hx hb dX10_nameOf_0 rfl (lv_at hl 0 rfl) ?_
  refine lv_tableIn (tgt := 118) hx hb dX10_nameOf_1 (by decide) (by decide) rfl (by decide) ?_
  refine va_ldcS (own := RX10) (tx := "try") (index := 194) (q := sa (5 + 10)) hx hb hown (hev.2.2.2.2.2.2.2.2 10 (RX10, 194, "try") rfl) dX10_nameOf_118 ?_
  exact en_a hx hb hr (Or.inl ⟨_, rfl⟩) (Or.inr ⟨_, rfl⟩) hlocks hP hD hK hS () rfl [] [] rfl rfl rfl (Nat.le_of_ble_eq_true rfl) (Nat.le_of_ble_eq_true rfl) dX10_nameOf_120

theorem pu_nameOf_11 (l : Launch) (dC : Nat → ClassId) (dI : Nat → Nat → Nat) (sa : Nat → Nat) (sz : Nat) : PU l dC dI sa yX10_nameOf wsX10_nameOf (rmJ 0) [.int 11] sz (some (.ref (sa (5 + 11)))) := by
  refine CT.start (cc := cX10_nameOf) (maxL := 1) (ret := (some (.object "java/lang/String"))) (by decide) rfl (Nat.le_of_ble_eq_true rfl) ?_
  intro p e s m below meth c ls hst hP hK hD hev hS hl
  obtain ⟨hx, hb, hr, hml, hts, hown, hlocks, hin⟩ := hst
  have hown : s.vm.findClass RX10 = some m.cls := hown
  have hl : lv_has ls 1 [(0, .int 11)] := hl
  refine lv_iload_n hx hb dX10_nameOf_0 rfl (lv_at hl 0 rfl) ?_
  refine lv_tableIn (tgt := 121) hx hb dX10_nameOf_1 (by decide) (by decide) rfl (by decide) ?_
  refine va_ldcS (own := RX10) (tx := "do") (index := 196) (q := sa (5 + 11)) hx hb hown (hev.2.2.2.2.2.2.2.2 11 (RX10, 196, "do") rfl) dX10_nameOf_121 ?_
  exact en_a hx hb hr (Or.inl ⟨_, rfl⟩) (Or.inr ⟨_, rfl⟩) hlocks hP hD hK hS () rfl [] [] rfl rfl rfl (Nat.le_of_ble_eq_true rfl) (Nat.le_of_ble_eq_true rfl) dX10_nameOf_123

theorem pu_nameOf_12 (l : Launch) (dC : Nat → ClassId) (dI : Nat → Nat → Nat) (sa : Nat → Nat) (sz : Nat) : PU l dC dI sa yX10_nameOf wsX10_nameOf (rmJ 0) [.int 12] sz (some (.ref (sa (5 + 12)))) := by
  refine CT.start (cc := cX10_nameOf) (maxL := 1) (ret := (some (.object "java/lang/String"))) (by decide) rfl (Nat.le_of_ble_eq_true rfl) ?_
  intro p e s m below meth c ls hst hP hK hD hev hS hl
  obtain ⟨hx, hb, hr, hml, hts, hown, hlocks, hin⟩ := hst
  have hown : s.vm.findClass RX10 = some m.cls := hown
  have hl : lv_has ls 1 [(0, .int 12)] := hl
  refine lv_iload_n hx hb dX10_nameOf_0 rfl (lv_at hl 0 rfl) ?_
  refine lv_tableIn (tgt := 124) hx hb dX10_nameOf_1 (by decide) (by decide) rfl (by decide) ?_
  refine va_ldcS (own := RX10) (tx := "last") (index := 198) (q := sa (5 + 12)) hx hb hown (hev.2.2.2.2.2.2.2.2 12 (RX10, 198, "last") rfl) dX10_nameOf_124 ?_
  exact en_a hx hb hr (Or.inl ⟨_, rfl⟩) (Or.inr ⟨_, rfl⟩) hlocks hP hD hK hS () rfl [] [] rfl rfl rfl (Nat.le_of_ble_eq_true rfl) (Nat.le_of_ble_eq_true rfl) dX10_nameOf_126

theorem pu_nameOf_13 (l : Launch) (dC : Nat → ClassId) (dI : Nat → Nat → Nat) (sa : Nat → Nat) (sz : Nat) : PU l dC dI sa yX10_nameOf wsX10_nameOf (rmJ 0) [.int 13] sz (some (.ref (sa (5 + 13)))) := by
  refine CT.start (cc := cX10_nameOf) (maxL := 1) (ret := (some (.object "java/lang/String"))) (by decide) rfl (Nat.le_of_ble_eq_true rfl) ?_
  intro p e s m below meth c ls hst hP hK hD hev hS hl
  obtain ⟨hx, hb, hr, hml, hts, hown, hlocks, hin⟩ := hst
  have hown : s.vm.findClass RX10 = some m.cls := hown
  have hl : lv_has ls 1 [(0, .int 13)] := hl
  refine lv_iload_n hx hb dX10_nameOf_0 rfl (lv_at hl 0 rfl) ?_
  refine lv_tableIn (tgt := 127) hx hb dX10_nameOf_1 (by decide) (by decide) rfl (by decide) ?_
  refine va_ldcS (own := RX10) (tx := "else") (index := 200) (q := sa (5 + 13)) hx hb hown (hev.2.2.2.2.2.2.2.2 13 (RX10, 200, "else") rfl) dX10_nameOf_127 ?_
  exact en_a hx hb hr (Or.inl ⟨_, rfl⟩) (Or.inr ⟨_, rfl⟩) hlocks hP hD hK hS () rfl [] [] rfl rfl rfl (Nat.le_of_ble_eq_true rfl) (Nat.le_of_ble_eq_true rfl) dX10_nameOf_129

theorem pu_nameOf_14 (l : Launch) (dC : Nat → ClassId) (dI : Nat → Nat → Nat) (sa : Nat → Nat) (sz : Nat) : PU l dC dI sa yX10_nameOf wsX10_nameOf (rmJ 0) [.int 14] sz (some (.ref (sa (5 + 14)))) := by
  refine CT.start (cc := cX10_nameOf) (maxL := 1) (ret := (some (.object "java/lang/String"))) (by decide) rfl (Nat.le_of_ble_eq_true rfl) ?_
  intro p e s m below meth c ls hst hP hK hD hev hS hl
  obtain ⟨hx, hb, hr, hml, hts, hown, hlocks, hin⟩ := hst
  have hown : s.vm.findClass RX10 = some m.cls := hown
  have hl : lv_has ls 1 [(0, .int 14)] := hl
  refine lv_iload_n hx hb dX10_nameOf_0 rfl (lv_at hl 0 rfl) ?_
  refine lv_tableIn (tgt := 130) hx hb dX10_nameOf_1 (by decide) (by decide) rfl (by decide) ?_
  refine va_ldcS (own := RX10) (tx := "shade") (index := 202) (q := sa (5 + 14)) hx hb hown (hev.2.2.2.2.2.2.2.2 14 (RX10, 202, "shade") rfl) dX10_nameOf_130 ?_
  exact en_a hx hb hr (Or.inl ⟨_, rfl⟩) (Or.inr ⟨_, rfl⟩) hlocks hP hD hK hS () rfl [] [] rfl rfl rfl (Nat.le_of_ble_eq_true rfl) (Nat.le_of_ble_eq_true rfl) dX10_nameOf_132

theorem pu_nameOf_15 (l : Launch) (dC : Nat → ClassId) (dI : Nat → Nat → Nat) (sa : Nat → Nat) (sz : Nat) : PU l dC dI sa yX10_nameOf wsX10_nameOf (rmJ 0) [.int 15] sz (some (.ref (sa (5 + 15)))) := by
  refine CT.start (cc := cX10_nameOf) (maxL := 1) (ret := (some (.object "java/lang/String"))) (by decide) rfl (Nat.le_of_ble_eq_true rfl) ?_
  intro p e s m below meth c ls hst hP hK hD hev hS hl
  obtain ⟨hx, hb, hr, hml, hts, hown, hlocks, hin⟩ := hst
  have hown : s.vm.findClass RX10 = some m.cls := hown
  have hl : lv_has ls 1 [(0, .int 15)] := hl
  refine lv_iload_n hx hb dX10_nameOf_0 rfl (lv_at hl 0 rfl) ?_
  refine lv_tableIn (tgt := 133) hx hb dX10_nameOf_1 (by decide) (by decide) rfl (by decide) ?_
  refine va_ldcS (own := RX10) (tx := "loose") (index := 204) (q := sa (5 + 15)) hx hb hown (hev.2.2.2.2.2.2.2.2 15 (RX10, 204, "loose") rfl) dX10_nameOf_133 ?_
  exact en_a hx hb hr (Or.inl ⟨_, rfl⟩) (Or.inr ⟨_, rfl⟩) hlocks hP hD hK hS () rfl [] [] rfl rfl rfl (Nat.le_of_ble_eq_true rfl) (Nat.le_of_ble_eq_true rfl) dX10_nameOf_135

theorem pu_nameOf_16 (l : Launch) (dC : Nat → ClassId) (dI : Nat → Nat → Nat) (sa : Nat → Nat) (sz : Nat) : PU l dC dI sa yX10_nameOf wsX10_nameOf (rmJ 0) [.int 16] sz (some (.ref (sa (5 + 16)))) := by
  refine CT.start (cc := cX10_nameOf) (maxL := 1) (ret := (some (.object "java/lang/String"))) (by decide) rfl (Nat.le_of_ble_eq_true rfl) ?_
  intro p e s m below meth c ls hst hP hK hD hev hS hl
  obtain ⟨hx, hb, hr, hml, hts, hown, hlocks, hin⟩ := hst
  have hown : s.vm.findClass RX10 = some m.cls := hown
  have hl : lv_has ls 1 [(0, .int 16)] := hl
  refine lv_iload_n hx hb dX10_nameOf_0 rfl (lv_at hl 0 rfl) ?_
  refine lv_tableIn (tgt := 136) hx hb dX10_nameOf_1 (by decide) (by decide) rfl (by decide) ?_
  refine va_ldcS (own := RX10) (tx := "hour") (index := 205) (q := sa (5 + 16)) hx hb hown (hev.2.2.2.2.2.2.2.2 16 (RX10, 205, "hour") rfl) dX10_nameOf_136 ?_
  exact en_a hx hb hr (Or.inl ⟨_, rfl⟩) (Or.inr ⟨_, rfl⟩) hlocks hP hD hK hS () rfl [] [] rfl rfl rfl (Nat.le_of_ble_eq_true rfl) (Nat.le_of_ble_eq_true rfl) dX10_nameOf_138

theorem pu_nameOf_17 (l : Launch) (dC : Nat → ClassId) (dI : Nat → Nat → Nat) (sa : Nat → Nat) (sz : Nat) : PU l dC dI sa yX10_nameOf wsX10_nameOf (rmJ 0) [.int 17] sz (some (.ref (sa (5 + 17)))) := by
  refine CT.start (cc := cX10_nameOf) (maxL := 1) (ret := (some (.object "java/lang/String"))) (by decide) rfl (Nat.le_of_ble_eq_true rfl) ?_
  intro p e s m below meth c ls hst hP hK hD hev hS hl
  obtain ⟨hx, hb, hr, hml, hts, hown, hlocks, hin⟩ := hst
  have hown : s.vm.findClass RX10 = some m.cls := hown
  have hl : lv_has ls 1 [(0, .int 17)] := hl
  refine lv_iload_n hx hb dX10_nameOf_0 rfl (lv_at hl 0 rfl) ?_
  refine lv_tableIn (tgt := 139) hx hb dX10_nameOf_1 (by decide) (by decide) rfl (by decide) ?_
  refine va_ldcS (own := RX10) (tx := "grains") (index := 206) (q := sa (5 + 17)) hx hb hown (hev.2.2.2.2.2.2.2.2 17 (RX10, 206, "grains") rfl) dX10_nameOf_139 ?_
  exact en_a hx hb hr (Or.inl ⟨_, rfl⟩) (Or.inr ⟨_, rfl⟩) hlocks hP hD hK hS () rfl [] [] rfl rfl rfl (Nat.le_of_ble_eq_true rfl) (Nat.le_of_ble_eq_true rfl) dX10_nameOf_141

theorem pu_nameOf_18 (l : Launch) (dC : Nat → ClassId) (dI : Nat → Nat → Nat) (sa : Nat → Nat) (sz : Nat) : PU l dC dI sa yX10_nameOf wsX10_nameOf (rmJ 0) [.int 18] sz (some (.ref (sa (5 + 18)))) := by
  refine CT.start (cc := cX10_nameOf) (maxL := 1) (ret := (some (.object "java/lang/String"))) (by decide) rfl (Nat.le_of_ble_eq_true rfl) ?_
  intro p e s m below meth c ls hst hP hK hD hev hS hl
  obtain ⟨hx, hb, hr, hml, hts, hown, hlocks, hin⟩ := hst
  have hown : s.vm.findClass RX10 = some m.cls := hown
  have hl : lv_has ls 1 [(0, .int 18)] := hl
  refine lv_iload_n hx hb dX10_nameOf_0 rfl (lv_at hl 0 rfl) ?_
  refine lv_tableOut (tgt := 142) hx hb dX10_nameOf_1 (by decide) (by decide) ?_
  refine va_ldcS (own := RX10) (tx := "food") (index := 207) (q := sa (5 + 18)) hx hb hown (hev.2.2.2.2.2.2.2.2 18 (RX10, 207, "food") rfl) dX10_nameOf_142 ?_
  exact en_a hx hb hr (Or.inl ⟨_, rfl⟩) (Or.inr ⟨_, rfl⟩) hlocks hP hD hK hS () rfl [] [] rfl rfl rfl (Nat.le_of_ble_eq_true rfl) (Nat.le_of_ble_eq_true rfl) dX10_nameOf_144

theorem pu_nameOf (l : Launch) (dC : Nat → ClassId) (dI : Nat → Nat → Nat) (sa : Nat → Nat) (q : Nat) (hq : q ≤ 18) (x : Int32) (hx : x = nI q) (sz : Nat) : PU l dC dI sa yX10_nameOf wsX10_nameOf (rmJ 0) [.int x] sz (some (.ref (sa (5 + q)))) := by
  subst hx
  match q, hq with
  | 0, _ => exact pu_nameOf_0 l dC dI sa sz
  | 1, _ => exact pu_nameOf_1 l dC dI sa sz
  | 2, _ => exact pu_nameOf_2 l dC dI sa sz
  | 3, _ => exact pu_nameOf_3 l dC dI sa sz
  | 4, _ => exact pu_nameOf_4 l dC dI sa sz
  | 5, _ => exact pu_nameOf_5 l dC dI sa sz
  | 6, _ => exact pu_nameOf_6 l dC dI sa sz
  | 7, _ => exact pu_nameOf_7 l dC dI sa sz
  | 8, _ => exact pu_nameOf_8 l dC dI sa sz
  | 9, _ => exact pu_nameOf_9 l dC dI sa sz
  | 10, _ => exact pu_nameOf_10 l dC dI sa sz
  | 11, _ => exact pu_nameOf_11 l dC dI sa sz
  | 12, _ => exact pu_nameOf_12 l dC dI sa sz
  | 13, _ => exact pu_nameOf_13 l dC dI sa sz
  | 14, _ => exact pu_nameOf_14 l dC dI sa sz
  | 15, _ => exact pu_nameOf_15 l dC dI sa sz
  | 16, _ => exact pu_nameOf_16 l dC dI sa sz
  | 17, _ => exact pu_nameOf_17 l dC dI sa sz
  | 18, _ => exact pu_nameOf_18 l dC dI sa sz
  | n + 19, h => exact absurd h (by omega)


theorem zb0 {z : Int32} {A B : Prop} (h : (z = 0 ∧ A) ∨ (z = 1 ∧ B)) (h0 : z = 0) : A := by
  rcases h with h | h
  · exact h.2
  · rw [h0] at h; exact absurd h.1 (by decide)
theorem zb1 {z : Int32} {A B : Prop} (h : (z = 0 ∧ A) ∨ (z = 1 ∧ B)) (h0 : ¬ z = 0) : B := by
  rcases h with h | h
  · exact absurd h.1 h0
  · exact h.2
/-- numbers of places -/
theorem pl_ge {x y : Int32} {p n : Nat} (hx : x = nI p) (hy : y = nI n) (hp : p < 2147483648) (hn : n < 2147483648) (h : y ≤ x) : n ≤ p := by
  rwa [hx, hy, nI_leI (by omega) (by omega)] at h
theorem pl_lt {x y : Int32} {p n : Nat} (hx : x = nI p) (hy : y = nI n) (hp : p < 2147483648) (hn : n < 2147483648) (h : ¬ y ≤ x) : p < n := by
  rw [hx, hy, nI_leI (by omega) (by omega)] at h
  omega
theorem ld_at {t : Nat → Int32} {x z : Int32} {p : Nat} (e : z = t x.toNatClampNeg) (hx : x = nI p) (hp : p < 2147483648) : z = t p := by
  rw [e, hx, nI_clamp hp]

noncomputable abbrev rm_X10_wrong : Room := { frames := 0, cells := 0, slots := 0, locals := 0 }
theorem inw_X10_wrong_10 : ∀ w ∈ wsX100, w ∈ wsX10_wrong := fun _ h => List.mem_cons_of_mem _ (List.mem_append_right _ h)
set_option maxHeartbeats 1000000 in
set_option maxRecDepth 100000 in
theorem m_X10_wrong (l : Launch) (dC : Nat → ClassId) (dI : Nat → Nat → Nat) (sa : Nat → Nat) (g : Nat → Nat) (h0 : Nat) (b : Nat → Nat) (i : Nat → Int32) (a : Nat → Nat → Int32) (kd : Int32) (pl : Int32) (sz : Nat) (hk0 : (i 23) = 0) : CT l dC dI sa yX10_wrong wsX10_wrong rm_X10_wrong [.ref h0, .int kd, .int pl] (mw g h0 b i a) (tyM g) sz (fun (r : Option Value) (u : Int32 × Int32) => match u with | (x23, x24) => ((r = some (.int 0) ∧ (x23 = kd ∧ x24 = pl)) ∨ (r = some (.int 1) ∧ (False))) ∧ (True)) (fun (u : Int32 × Int32) => match u with | (x23, x24) => mw g h0 b (va_up (va_up i 23 x23) 24 x24) a) (fun _ => []) 0 0 := by
  refine CT.start (cc := cX10_wrong) (maxL := 3) (ret := (some .boolean)) (by decide) rfl (Nat.le_of_ble_eq_true rfl) ?_
  intro p e s m below meth c ls hst hP hK hD hev hS hl
  obtain ⟨hx, hb, hr, hml, hts, hown, hlocks, hin⟩ := hst
  have hown : s.vm.findClass RX10 = some m.cls := hown
  have hA : ∀ q : Nat, s.heap.size ≤ q → va_A (mw g h0 b i a) s.heap.size q := fun _ h => Or.inr h
  have hl : lv_has ls 3 [(0, .ref h0), (1, .int kd), (2, .int pl)] := hl
  refine lv_aload_n hx hb dX10_wrong_0 rfl (lv_at hl 0 rfl) ?_
  refine va_get (D := (dC, dI)) (ci := 10) (v := .int (i 23)) (C := RX10) (T := TX10) (N := 51) hx hb hts inw_X10_wrong_10 hown hK hP 0 rfl rfl 23 (by decide) (hts (.fieldLink RX10 165 "VatHouseModel" "faultKind" "I") (List.mem_of_getElem? (i := 1) (by exact rfl))) (fun _ h9 => h9) rfl dX10_wrong_1 ?_
  refine lv_if_ne (tgt := 17) hx hb dX10_wrong_4 (by decide) (fun c_1 => ?_) (fun c_1 => ?_)
  · have nc_1 := ne_i c_1
    have lc_1 : (0 : Int32).toInt = 0 := by decide
    refine lv_iconst (v := 0) hx hb dX10_wrong_17 (by decide) ?_
    exact M_z hx hb hr rfl hlocks ((i 23), (i 24)) hP hD hK hS ⟨Or.inl ⟨rfl, (absurd hk0 c_1)⟩, trivial⟩ (Nat.le_of_ble_eq_true rfl) (Nat.le_of_ble_eq_true rfl) dX10_wrong_18
  · have nc_1 := eq_i c_1
    have lc_1 : (0 : Int32).toInt = 0 := by decide
    refine lv_aload_n hx hb dX10_wrong_7 rfl (lv_at hl 0 rfl) ?_
    refine lv_iload_n hx hb dX10_wrong_8 rfl (lv_at hl 1 rfl) ?_
    refine va_put (D := (dC, dI)) (ci := 10) (v := .int kd) (ty := .int) (C := RX10) (T := TX10) (N := 51) hx hb hts inw_X10_wrong_10 tyX10 tyX10_ok nmX10 hown hK hP hD hS 0 rfl rfl 23 (by decide) (hts (.fieldLink RX10 165 "VatHouseModel" "faultKind" "I") (List.mem_of_getElem? (i := 1) (by exact rfl))) (fun _ h9 => h9) rfl (tyX10_ok 23 (by decide)) rfl rfl (Nat.le_of_ble_eq_true rfl) dX10_wrong_9 (fun H locs hP hD hS => ?_)
    have hP : va_P (dC, dI) vwCl (mw g h0 b (va_up i 23 kd) a) _ := hP
    have hD : va_D _ (mw g h0 b (va_up i 23 kd) a) := hD
    refine lv_aload_n hx hb dX10_wrong_12 rfl (lv_at hl 0 rfl) ?_
    refine lv_iload_n hx hb dX10_wrong_13 rfl (lv_at hl 2 rfl) ?_
    refine va_put (D := (dC, dI)) (ci := 10) (v := .int pl) (ty := .int) (C := RX10) (T := TX10) (N := 51) hx hb hts inw_X10_wrong_10 tyX10 tyX10_ok nmX10 hown hK hP hD hS 0 rfl rfl 24 (by decide) (hts (.fieldLink RX10 56 "VatHouseModel" "faultPlace" "I") (List.mem_of_getElem? (i := 2) (by exact rfl))) (fun _ h9 => h9) rfl (tyX10_ok 24 (by decide)) rfl rfl (Nat.le_of_ble_eq_true rfl) dX10_wrong_14 (fun H locs hP hD hS => ?_)
    have hP : va_P (dC, dI) vwCl (mw g h0 b (va_up (va_up i 23 kd) 24 pl) a) _ := hP
    have hD : va_D _ (mw g h0 b (va_up (va_up i 23 kd) 24 pl) a) := hD
    refine lv_iconst (v := 0) hx hb dX10_wrong_17 (by decide) ?_
    exact M_z hx hb hr rfl hlocks (kd, pl) hP hD hK hS ⟨Or.inl ⟨rfl, ⟨rfl, rfl⟩⟩, trivial⟩ (Nat.le_of_ble_eq_true rfl) (Nat.le_of_ble_eq_true rfl) dX10_wrong_18

noncomputable abbrev rm_X10_skip : Room := { frames := 0, cells := 0, slots := 0, locals := 0 }
theorem inw_X10_skip_10 : ∀ w ∈ wsX100, w ∈ wsX10_skip := fun _ h => List.mem_cons_of_mem _ (List.mem_append_right _ h)
set_option maxHeartbeats 1000000 in
set_option maxRecDepth 100000 in
theorem m_X10_skip (l : Launch) (dC : Nat → ClassId) (dI : Nat → Nat → Nat) (sa : Nat → Nat) (g : Nat → Nat) (h0 : Nat) (b : Nat → Nat) (ln : Nat) (sq : SG) (i : Nat → Int32) (a : Nat → Nat → Int32) (sz : Nat) (hL : (i 21) = nI ln ∧ ln ≤ 1500) (hM : MI (a 19) ln sq (i 22) (i 23) (i 24)) : CT l dC dI sa yX10_skip wsX10_skip rm_X10_skip [.ref h0] (mw g h0 b i a) (tyM g) sz (fun (r : Option Value) (x22 : Int32) => (r = none) ∧ (x22 = nI sq.1)) (fun (x22 : Int32) => mw g h0 b (va_up i 22 x22) a) (fun _ => []) 0 0 := by
  refine CT.start (cc := cX10_skip) (maxL := 1) (ret := none) (by decide) rfl (Nat.le_of_ble_eq_true rfl) ?_
  intro p e s m below meth c ls hst hP hK hD hev hS hl
  obtain ⟨hx, hb, hr, hml, hts, hown, hlocks, hin⟩ := hst
  have hown : s.vm.findClass RX10 = some m.cls := hown
  have hA : ∀ q : Nat, s.heap.size ≤ q → va_A (mw g h0 b i a) s.heap.size q := fun _ h => Or.inr h
  have hl : lv_has ls 1 [(0, .ref h0)] := hl
  have lp : ∀ (n : Nat) (l22 : Int32) (H : Heap) (locs : List Loc) (ls : Array Slot), (∃ p1 : Nat, l22 = nI p1 ∧ p1 ≤ ln ∧ ln < p1 + n ∧ sk (a 19) ln p1 = sq.1) → va_P (dC, dI) vwCl (mw g h0 b (va_up i 22 l22) a) H → va_D (va_A (mw g h0 b i a) s.heap.size) (mw g h0 b (va_up i 22 l22) a) → va_S (va_A (mw g h0 b i a) s.heap.size) s.heap H locs → lv_has ls 1 [(0, .ref h0)] → W p l e rm_X10_skip s m [.ref h0].toArray below meth c H locs 0 0 (MQ below (Qg (fun (r : Option Value) (x22 : Int32) => (r = none) ∧ (x22 = nI sq.1)) (fun u t => QW dC dI (va_A (mw g h0 b i a) s.heap.size) ((fun (x22 : Int32) => mw g h0 b (va_up i 22 x22) a) u) [] t) (va_A (mw g h0 b i a) s.heap.size)) [.ref h0].toArray s 0 0 (va_A (mw g h0 b i a) s.heap.size)) (F0 m 0 ls []) := by
    intro n
    induction n with
    | zero => intro l22 H locs ls hm  hP hD hS hl; exact absurd hm (by rintro ⟨p1, -, h1, h2, -⟩; omega)
    | succ n ih =>
      intro l22 H locs ls hm  hP hD hS hl
      refine lv_aload_n hx hb dX10_skip_0 rfl (lv_at hl 0 rfl) ?_
      refine va_get (D := (dC, dI)) (ci := 10) (v := .int l22) (C := RX10) (T := TX10) (N := 51) hx hb hts inw_X10_skip_10 hown hK hP 0 rfl rfl 22 (by decide) (hts (.fieldLink RX10 168 "VatHouseModel" "at" "I") (List.mem_of_getElem? (i := 1) (by exact rfl))) (fun _ h9 => h9) rfl dX10_skip_1 ?_
      refine lv_aload_n hx hb dX10_skip_4 rfl (lv_at hl 0 rfl) ?_
      refine va_get (D := (dC, dI)) (ci := 10) (v := .int (i 21)) (C := RX10) (T := TX10) (N := 51) hx hb hts inw_X10_skip_10 hown hK hP 0 rfl rfl 21 (by decide) (hts (.fieldLink RX10 171 "VatHouseModel" "size" "I") (List.mem_of_getElem? (i := 2) (by exact rfl))) (fun _ h9 => h9) rfl dX10_skip_5 ?_
      refine lv_icmp_ge (tgt := 52) hx hb dX10_skip_8 (by decide) (fun c_1 => ?_) (fun c_1 => ?_)
      · have nc_1 := le_i c_1
        obtain ⟨p1, hp1, hp2, hp3, hp4⟩ := hm
        have hend : p1 = sq.1 := by rw [← hp4]; exact (re_stop (Or.inl (pl_ge hp1 hL.1 (by omega) (by omega) c_1))).symm
        exact M_v hx hb hr hlocks (l22) hP hD hK hS ⟨rfl, by rw [hp1, hend]⟩ (Nat.le_of_ble_eq_true rfl) (Nat.le_of_ble_eq_true rfl) dX10_skip_52
      · have nc_1 := nle_i c_1
        obtain ⟨p1, hp1, hp2, hp3, hp4⟩ := hm
        have hp6 : p1 < ln := pl_lt hp1 hL.1 (by omega) (by omega) c_1
        refine lv_aload_n hx hb dX10_skip_11 rfl (lv_at hl 0 rfl) ?_
        refine va_get (D := (dC, dI)) (ci := 10) (v := .ref (b 19)) (C := RX10) (T := TX10) (N := 51) hx hb hts inw_X10_skip_10 hown hK hP 0 rfl rfl 19 (by decide) (hts (.fieldLink RX10 53 "VatHouseModel" "tape" "[I") (List.mem_of_getElem? (i := 3) (by exact rfl))) (fun _ h9 => h9) rfl dX10_skip_12 ?_
        refine lv_aload_n hx hb dX10_skip_15 rfl (lv_at hl 0 rfl) ?_
        refine va_get (D := (dC, dI)) (ci := 10) (v := .int l22) (C := RX10) (T := TX10) (N := 51) hx hb hts inw_X10_skip_10 hown hK hP 0 rfl rfl 22 (by decide) (hts (.fieldLink RX10 168 "VatHouseModel" "at" "I") (List.mem_of_getElem? (i := 1) (by exact rfl))) (fun _ h9 => h9) rfl dX10_skip_16 ?_
        refine va_iald hx hb hK hP 15 14 rfl rfl (by rw [hp1]; exact vp_in_nI (by omega) (by decide)) dX10_skip_19 ?_
        refine lv_topi (fun z_2 ez_2 => ?_)
        have ez_2 : z_2 = (a 19) l22.toNatClampNeg := ez_2
        have hzt := ld_at ez_2 hp1 (by omega)
        refine lv_bipush (v := 32) hx hb dX10_skip_20 (by decide) ?_
        refine lv_icmp_eq (tgt := 39) hx hb dX10_skip_22 (by decide) (fun c_3 => ?_) (fun c_3 => ?_)
        · have nc_3 := eq_i c_3
          have lc_3 : (32 : Int32).toInt = 32 := by decide
          refine lv_aload_n hx hb dX10_skip_39 rfl (lv_at hl 0 rfl) ?_
          refine lv_dup hx hb dX10_skip_40 rfl ?_
          refine va_get (D := (dC, dI)) (ci := 10) (v := .int l22) (C := RX10) (T := TX10) (N := 51) hx hb hts inw_X10_skip_10 hown hK hP 0 rfl rfl 22 (by decide) (hts (.fieldLink RX10 168 "VatHouseModel" "at" "I") (List.mem_of_getElem? (i := 1) (by exact rfl))) (fun _ h9 => h9) rfl dX10_skip_41 ?_
          refine lv_iconst (v := 1) hx hb dX10_skip_44 (by decide) ?_
          refine lv_iadd hx hb dX10_skip_45 ?_
          refine lv_topi (fun z_4 ez_4 => ?_)
          refine va_put (D := (dC, dI)) (ci := 10) (v := .int z_4) (ty := .int) (C := RX10) (T := TX10) (N := 51) hx hb hts inw_X10_skip_10 tyX10 tyX10_ok nmX10 hown hK hP hD hS 0 rfl rfl 22 (by decide) (hts (.fieldLink RX10 168 "VatHouseModel" "at" "I") (List.mem_of_getElem? (i := 1) (by exact rfl))) (fun _ h9 => h9) rfl (tyX10_ok 22 (by decide)) rfl rfl (Nat.le_of_ble_eq_true rfl) dX10_skip_46 (fun H locs hP hD hS => ?_)
          have hP : va_P (dC, dI) vwCl (mw g h0 b (va_up i 22 z_4) a) _ := hP
          have hD : va_D _ (mw g h0 b (va_up i 22 z_4) a) := hD
          refine lv_goto (tgt := 0) hx hb dX10_skip_49 (by decide) ?_
          exact ih z_4 _ _ _ (⟨p1 + 1, by rw [ez_4, hp1]; exact nI_1 p1, by omega, by omega, by rw [← hp4]; exact (re_go (Q := fun x => isB ((a 19) x)) hp6 (by show isB _ = true; unfold isB; rw [← hzt]; simp [c_3])).symm⟩)  hP hD hS (lv_sub hl [0] rfl)
        · have nc_3 := ne_i c_3
          have lc_3 : (32 : Int32).toInt = 32 := by decide
          refine lv_aload_n hx hb dX10_skip_25 rfl (lv_at hl 0 rfl) ?_
          refine va_get (D := (dC, dI)) (ci := 10) (v := .ref (b 19)) (C := RX10) (T := TX10) (N := 51) hx hb hts inw_X10_skip_10 hown hK hP 0 rfl rfl 19 (by decide) (hts (.fieldLink RX10 53 "VatHouseModel" "tape" "[I") (List.mem_of_getElem? (i := 3) (by exact rfl))) (fun _ h9 => h9) rfl dX10_skip_26 ?_
          refine lv_aload_n hx hb dX10_skip_29 rfl (lv_at hl 0 rfl) ?_
          refine va_get (D := (dC, dI)) (ci := 10) (v := .int l22) (C := RX10) (T := TX10) (N := 51) hx hb hts inw_X10_skip_10 hown hK hP 0 rfl rfl 22 (by decide) (hts (.fieldLink RX10 168 "VatHouseModel" "at" "I") (List.mem_of_getElem? (i := 1) (by exact rfl))) (fun _ h9 => h9) rfl dX10_skip_30 ?_
          refine va_iald hx hb hK hP 15 14 rfl rfl (by rw [hp1]; exact vp_in_nI (by omega) (by decide)) dX10_skip_33 ?_
          refine lv_topi (fun z_5 ez_5 => ?_)
          have ez_5 : z_5 = (a 19) l22.toNatClampNeg := ez_5
          obtain rfl : z_5 = z_2 := ez_5.trans ez_2.symm
          refine lv_bipush (v := 10) hx hb dX10_skip_34 (by decide) ?_
          refine lv_icmp_ne (tgt := 52) hx hb dX10_skip_36 (by decide) (fun c_6 => ?_) (fun c_6 => ?_)
          · have nc_6 := ne_i c_6
            have lc_6 : (10 : Int32).toInt = 10 := by decide
            have hend : p1 = sq.1 := by rw [← hp4]; exact (re_stop (Q := fun x => isB ((a 19) x)) (Or.inr (by show isB _ = false; unfold isB; rw [← hzt]; simp [c_3, c_6]))).symm
            exact M_v hx hb hr hlocks (l22) hP hD hK hS ⟨rfl, by rw [hp1, hend]⟩ (Nat.le_of_ble_eq_true rfl) (Nat.le_of_ble_eq_true rfl) dX10_skip_52
          · have nc_6 := eq_i c_6
            have lc_6 : (10 : Int32).toInt = 10 := by decide
            refine lv_aload_n hx hb dX10_skip_39 rfl (lv_at hl 0 rfl) ?_
            refine lv_dup hx hb dX10_skip_40 rfl ?_
            refine va_get (D := (dC, dI)) (ci := 10) (v := .int l22) (C := RX10) (T := TX10) (N := 51) hx hb hts inw_X10_skip_10 hown hK hP 0 rfl rfl 22 (by decide) (hts (.fieldLink RX10 168 "VatHouseModel" "at" "I") (List.mem_of_getElem? (i := 1) (by exact rfl))) (fun _ h9 => h9) rfl dX10_skip_41 ?_
            refine lv_iconst (v := 1) hx hb dX10_skip_44 (by decide) ?_
            refine lv_iadd hx hb dX10_skip_45 ?_
            refine lv_topi (fun z_7 ez_7 => ?_)
            refine va_put (D := (dC, dI)) (ci := 10) (v := .int z_7) (ty := .int) (C := RX10) (T := TX10) (N := 51) hx hb hts inw_X10_skip_10 tyX10 tyX10_ok nmX10 hown hK hP hD hS 0 rfl rfl 22 (by decide) (hts (.fieldLink RX10 168 "VatHouseModel" "at" "I") (List.mem_of_getElem? (i := 1) (by exact rfl))) (fun _ h9 => h9) rfl (tyX10_ok 22 (by decide)) rfl rfl (Nat.le_of_ble_eq_true rfl) dX10_skip_46 (fun H locs hP hD hS => ?_)
            have hP : va_P (dC, dI) vwCl (mw g h0 b (va_up i 22 z_7) a) _ := hP
            have hD : va_D _ (mw g h0 b (va_up i 22 z_7) a) := hD
            refine lv_goto (tgt := 0) hx hb dX10_skip_49 (by decide) ?_
            exact ih z_7 _ _ _ (⟨p1 + 1, by rw [ez_7, hp1]; exact nI_1 p1, by omega, by omega, by rw [← hp4]; exact (re_go (Q := fun x => isB ((a 19) x)) hp6 (by show isB _ = true; unfold isB; rw [← hzt]; simp [c_3, c_6])).symm⟩)  hP hD hS (lv_sub hl [0] rfl)
  exact lp (ln + 1) (i 22) _ _ _ (by obtain ⟨-, -, -, p, h1, h2, h3⟩ := hM; exact ⟨p, h1, h2, by omega, h3⟩)  hP hD hS (lv_sub hl [0] rfl)

noncomputable abbrev rm_X10_isSign : Room := { frames := 1, cells := 0, slots := 0, locals := 20 }
theorem inw_X10_isSign_10 : ∀ w ∈ wsX100, w ∈ wsX10_isSign := fun _ h => List.mem_cons_of_mem _ (List.mem_append_right _ h)
set_option maxHeartbeats 1000000 in
set_option maxRecDepth 100000 in
theorem m_X10_isSign (l : Launch) (dC : Nat → ClassId) (dI : Nat → Nat → Nat) (sa : Nat → Nat) (g : Nat → Nat) (h0 : Nat) (b : Nat → Nat) (ln : Nat) (sq : SG) (i : Nat → Int32) (a : Nat → Nat → Int32) (sg : Int32) (sz : Nat) (hL : (i 21) = nI ln ∧ ln ≤ 1500) (hM : MI (a 19) ln sq (i 22) (i 23) (i 24)) (hgc : isG sg = true) : CT l dC dI sa yX10_isSign wsX10_isSign rm_X10_isSign [.ref h0, .int sg] (mw g h0 b i a) (tyM g) sz (fun (r : Option Value) (x22 : Int32) => ((r = some (.int 0) ∧ (¬ Kp (a 19) ln sq.1 = sg)) ∨ (r = some (.int 1) ∧ (sq.1 < ln ∧ Kp (a 19) ln sq.1 = sg))) ∧ (x22 = nI sq.1)) (fun (x22 : Int32) => mw g h0 b (va_up i 22 x22) a) (fun _ => []) 0 0 := by
  refine CT.start (cc := cX10_isSign) (maxL := 2) (ret := (some .boolean)) (by decide) rfl (Nat.le_of_ble_eq_true rfl) ?_
  intro p e s m below meth c ls hst hP hK hD hev hS hl
  obtain ⟨hx, hb, hr, hml, hts, hown, hlocks, hin⟩ := hst
  have hown : s.vm.findClass RX10 = some m.cls := hown
  have hA : ∀ q : Nat, s.heap.size ≤ q → va_A (mw g h0 b i a) s.heap.size q := fun _ h => Or.inr h
  have hl : lv_has ls 2 [(0, .ref h0), (1, .int sg)] := hl
  refine lv_aload_n hx hb dX10_isSign_0 rfl (lv_at hl 0 rfl) ?_
  refine M_V ⟨hx, hb, hml, hown, hts⟩ (m_X10_skip l dC dI sa g h0 b ln sq i a  _ hL hM) (cwV 0 hts gX10_isSign_X10_skip rfl rfl rfl (by decide +kernel) ⟨Nat.le_of_ble_eq_true rfl, Nat.le_of_ble_eq_true rfl⟩) hP hD hK hS hA hev rfl rfl rfl rfl hl.1 rfl (Nat.le_of_ble_eq_true rfl) dX10_isSign_1 ⟨(Nat.le_of_ble_eq_true rfl), (Nat.le_of_ble_eq_true rfl)⟩ (fun r u H locs hw hP hD hS => ?_)
  obtain ⟨x22_1, rfl⟩ : ∃ z, z = u := ⟨_, rfl⟩
  have hw : (r = none) ∧ (x22_1 = nI sq.1) := hw
  obtain ⟨rfl, hw_2⟩ := hw
  have hP : va_P (dC, dI) vwCl (mw g h0 b (va_up i 22 x22_1) a) _ := hP
  have hD : va_D _ (mw g h0 b (va_up i 22 x22_1) a) := hD
  refine W.eq (g2 := F0 m 4 ls []) rfl ?_
  have hmq_3 : MI (a 19) ln sq x22_1 (i 23) (i 24) := (hM).sk hw_2
  refine lv_aload_n hx hb dX10_isSign_4 rfl (lv_at hl 0 rfl) ?_
  refine va_get (D := (dC, dI)) (ci := 10) (v := .int x22_1) (C := RX10) (T := TX10) (N := 51) hx hb hts inw_X10_isSign_10 hown hK hP 0 rfl rfl 22 (by decide) (hts (.fieldLink RX10 168 "VatHouseModel" "at" "I") (List.mem_of_getElem? (i := 1) (by exact rfl))) (fun _ h9 => h9) rfl dX10_isSign_5 ?_
  refine lv_aload_n hx hb dX10_isSign_8 rfl (lv_at hl 0 rfl) ?_
  refine va_get (D := (dC, dI)) (ci := 10) (v := .int (i 21)) (C := RX10) (T := TX10) (N := 51) hx hb hts inw_X10_isSign_10 hown hK hP 0 rfl rfl 21 (by decide) (hts (.fieldLink RX10 171 "VatHouseModel" "size" "I") (List.mem_of_getElem? (i := 2) (by exact rfl))) (fun _ h9 => h9) rfl dX10_isSign_9 ?_
  refine lv_icmp_ge (tgt := 32) hx hb dX10_isSign_12 (by decide) (fun c_4 => ?_) (fun c_4 => ?_)
  · have nc_4 := le_i c_4
    refine lv_iconst (v := 0) hx hb dX10_isSign_32 (by decide) ?_
    exact M_z hx hb hr rfl hlocks (x22_1) hP hD hK hS ⟨Or.inl ⟨rfl, fun h9 => absurd ((Kp_sign hgc).mp h9).1 (Nat.not_lt.mpr (pl_ge hw_2 hL.1 (by have := (hmq_3).q.1; have := hL.2; omega) (by have := hL.2; omega) c_4))⟩, hw_2⟩ (Nat.le_of_ble_eq_true rfl) (Nat.le_of_ble_eq_true rfl) dX10_isSign_33
  · have nc_4 := nle_i c_4
    refine lv_aload_n hx hb dX10_isSign_15 rfl (lv_at hl 0 rfl) ?_
    refine va_get (D := (dC, dI)) (ci := 10) (v := .ref (b 19)) (C := RX10) (T := TX10) (N := 51) hx hb hts inw_X10_isSign_10 hown hK hP 0 rfl rfl 19 (by decide) (hts (.fieldLink RX10 53 "VatHouseModel" "tape" "[I") (List.mem_of_getElem? (i := 3) (by exact rfl))) (fun _ h9 => h9) rfl dX10_isSign_16 ?_
    refine lv_aload_n hx hb dX10_isSign_19 rfl (lv_at hl 0 rfl) ?_
    refine va_get (D := (dC, dI)) (ci := 10) (v := .int x22_1) (C := RX10) (T := TX10) (N := 51) hx hb hts inw_X10_isSign_10 hown hK hP 0 rfl rfl 22 (by decide) (hts (.fieldLink RX10 168 "VatHouseModel" "at" "I") (List.mem_of_getElem? (i := 1) (by exact rfl))) (fun _ h9 => h9) rfl dX10_isSign_20 ?_
    refine va_iald hx hb hK hP 15 14 rfl rfl (by rw [hw_2]; exact vp_in_nI (by have := hL.2; have := (hmq_3).q.1; have := pl_lt hw_2 hL.1 (by omega) (by omega) c_4; omega) (by decide)) dX10_isSign_23 ?_
    refine lv_topi (fun z_5 ez_5 => ?_)
    have ez_5 : z_5 = (a 19) x22_1.toNatClampNeg := ez_5
    refine lv_iload_n hx hb dX10_isSign_24 rfl (lv_at hl 1 rfl) ?_
    refine lv_icmp_ne (tgt := 32) hx hb dX10_isSign_25 (by decide) (fun c_6 => ?_) (fun c_6 => ?_)
    · have nc_6 := ne_i c_6
      refine lv_iconst (v := 0) hx hb dX10_isSign_32 (by decide) ?_
      exact M_z hx hb hr rfl hlocks (x22_1) hP hD hK hS ⟨Or.inl ⟨rfl, fun h9 => c_6 ((ld_at ez_5 hw_2 (by have := (hmq_3).q.1; have := hL.2; omega)).trans ((Kp_sign hgc).mp h9).2)⟩, hw_2⟩ (Nat.le_of_ble_eq_true rfl) (Nat.le_of_ble_eq_true rfl) dX10_isSign_33
    · have nc_6 := eq_i c_6
      refine lv_iconst (v := 1) hx hb dX10_isSign_28 (by decide) ?_
      refine lv_goto (tgt := 33) hx hb dX10_isSign_29 (by decide) ?_
      exact M_z hx hb hr rfl hlocks (x22_1) hP hD hK hS ⟨Or.inr ⟨rfl, ⟨(pl_lt hw_2 hL.1 (by have := (hmq_3).q.1; have := hL.2; omega) (by have := hL.2; omega) c_4), (Kp_sign hgc).mpr ⟨(pl_lt hw_2 hL.1 (by have := (hmq_3).q.1; have := hL.2; omega) (by have := hL.2; omega) c_4), (ld_at ez_5 hw_2 (by have := (hmq_3).q.1; have := hL.2; omega)).symm.trans c_6⟩⟩⟩, hw_2⟩ (Nat.le_of_ble_eq_true rfl) (Nat.le_of_ble_eq_true rfl) dX10_isSign_33

noncomputable abbrev rm_X10_need : Room := { frames := 2, cells := 0, slots := 0, locals := 41 }
theorem inw_X10_need_10 : ∀ w ∈ wsX100, w ∈ wsX10_need := fun _ h => List.mem_cons_of_mem _ (List.mem_append_right _ h)
set_option maxHeartbeats 1000000 in
set_option maxRecDepth 100000 in
theorem m_X10_need (l : Launch) (dC : Nat → ClassId) (dI : Nat → Nat → Nat) (sa : Nat → Nat) (g : Nat → Nat) (h0 : Nat) (b : Nat → Nat) (ln : Nat) (sq : SG) (i : Nat → Int32) (a : Nat → Nat → Int32) (sg : Int32) (sz : Nat) (hL : (i 21) = nI ln ∧ ln ≤ 1500) (hM : MI (a 19) ln sq (i 22) (i 23) (i 24)) (hgc : isG sg = true) : CT l dC dI sa yX10_need wsX10_need rm_X10_need [.ref h0, .int sg] (mw g h0 b i a) (tyM g) sz (fun (r : Option Value) (u : Int32 × Int32 × Int32) => match u with | (x22, x23, x24) => ((r = some (.int 0) ∧ (MO (gpa (Kp (a 19) ln) (nq (a 19) ln) sg sq) x23 x24)) ∨ (r = some (.int 1) ∧ (MI (a 19) ln (gpa (Kp (a 19) ln) (nq (a 19) ln) sg sq) x22 x23 x24))) ∧ (True)) (fun (u : Int32 × Int32 × Int32) => match u with | (x22, x23, x24) => mw g h0 b (va_up (va_up (va_up i 22 x22) 23 x23) 24 x24) a) (fun _ => []) 0 0 := by
  refine CT.start (cc := cX10_need) (maxL := 2) (ret := (some .boolean)) (by decide) rfl (Nat.le_of_ble_eq_true rfl) ?_
  intro p e s m below meth c ls hst hP hK hD hev hS hl
  obtain ⟨hx, hb, hr, hml, hts, hown, hlocks, hin⟩ := hst
  have hown : s.vm.findClass RX10 = some m.cls := hown
  have hA : ∀ q : Nat, s.heap.size ≤ q → va_A (mw g h0 b i a) s.heap.size q := fun _ h => Or.inr h
  have hl : lv_has ls 2 [(0, .ref h0), (1, .int sg)] := hl
  refine lv_aload_n hx hb dX10_need_0 rfl (lv_at hl 0 rfl) ?_
  refine lv_iload_n hx hb dX10_need_1 rfl (lv_at hl 1 rfl) ?_
  refine M_V ⟨hx, hb, hml, hown, hts⟩ (m_X10_isSign l dC dI sa g h0 b ln sq i a sg _ hL hM hgc) (cwV 1 hts gX10_need_X10_isSign rfl rfl rfl (by decide +kernel) ⟨Nat.le_of_ble_eq_true rfl, Nat.le_of_ble_eq_true rfl⟩) hP hD hK hS hA hev rfl rfl rfl rfl hl.1 rfl (Nat.le_of_ble_eq_true rfl) dX10_need_2 ⟨(Nat.le_of_ble_eq_true rfl), (Nat.le_of_ble_eq_true rfl)⟩ (fun r u H locs hw hP hD hS => ?_)
  obtain ⟨x22_1, rfl⟩ : ∃ z, z = u := ⟨_, rfl⟩
  have hw : ((r = some (.int 0) ∧ (¬ Kp (a 19) ln sq.1 = sg)) ∨ (r = some (.int 1) ∧ (sq.1 < ln ∧ Kp (a 19) ln sq.1 = sg))) ∧ (x22_1 = nI sq.1) := hw
  obtain ⟨⟨rfl, hz2_3⟩ | ⟨rfl, hz2_3⟩, hw_2⟩ := hw
  · have hP : va_P (dC, dI) vwCl (mw g h0 b (va_up i 22 x22_1) a) _ := hP
    have hD : va_D _ (mw g h0 b (va_up i 22 x22_1) a) := hD
    refine W.eq (g2 := F0 m 5 ls [.int 0]) rfl ?_
    have hmq_4 : MI (a 19) ln sq x22_1 (i 23) (i 24) := (hM).sk hw_2
    refine lv_if_ne (tgt := 18) hx hb dX10_need_5 (by decide) (fun c_5 => absurd c_5 (by decide)) (fun _ => ?_)
    refine lv_aload_n hx hb dX10_need_8 rfl (lv_at hl 0 rfl) ?_
    refine lv_iconst (v := 1) hx hb dX10_need_9 (by decide) ?_
    refine lv_aload_n hx hb dX10_need_10 rfl (lv_at hl 0 rfl) ?_
    refine va_get (D := (dC, dI)) (ci := 10) (v := .int x22_1) (C := RX10) (T := TX10) (N := 51) hx hb hts inw_X10_need_10 hown hK hP 0 rfl rfl 22 (by decide) (hts (.fieldLink RX10 168 "VatHouseModel" "at" "I") (List.mem_of_getElem? (i := 1) (by exact rfl))) (fun _ h9 => h9) rfl dX10_need_11 ?_
    refine M_V ⟨hx, hb, hml, hown, hts⟩ (m_X10_wrong l dC dI sa g h0 b (va_up i 22 x22_1) a (1 : Int32) x22_1 _ (hmq_4).1) (cwV 2 hts gX10_need_X10_wrong rfl rfl rfl (by decide +kernel) ⟨Nat.le_of_ble_eq_true rfl, Nat.le_of_ble_eq_true rfl⟩) hP hD hK hS hA hev rfl rfl rfl rfl hl.1 rfl (Nat.le_of_ble_eq_true rfl) dX10_need_14 ⟨(Nat.le_of_ble_eq_true rfl), (Nat.le_of_ble_eq_true rfl)⟩ (fun r u H locs hw hP hD hS => ?_)
    obtain ⟨x23_6, x24_7⟩ := u
    have hw : ((r = some (.int 0) ∧ (x23_6 = (1 : Int32) ∧ x24_7 = x22_1)) ∨ (r = some (.int 1) ∧ (False))) ∧ (True) := hw
    obtain ⟨⟨rfl, hz2_9⟩ | ⟨rfl, hz2_9⟩, hw_8⟩ := hw
    · have hP : va_P (dC, dI) vwCl (mw g h0 b (va_up (va_up (va_up i 22 x22_1) 23 x23_6) 24 x24_7) a) _ := hP
      have hD : va_D _ (mw g h0 b (va_up (va_up (va_up i 22 x22_1) 23 x23_6) 24 x24_7) a) := hD
      refine W.eq (g2 := F0 m 17 ls [.int 0]) rfl ?_
      exact M_z hx hb hr rfl hlocks (x22_1, x23_6, x24_7) hP hD hK hS ⟨Or.inl ⟨rfl, (hmq_4).fl hz2_3 hz2_9.1 (hz2_9.2.trans hw_2)⟩, trivial⟩ (Nat.le_of_ble_eq_true rfl) (Nat.le_of_ble_eq_true rfl) dX10_need_17
    · have hP : va_P (dC, dI) vwCl (mw g h0 b (va_up (va_up (va_up i 22 x22_1) 23 x23_6) 24 x24_7) a) _ := hP
      have hD : va_D _ (mw g h0 b (va_up (va_up (va_up i 22 x22_1) 23 x23_6) 24 x24_7) a) := hD
      refine W.eq (g2 := F0 m 17 ls [.int 1]) rfl ?_
      exact hz2_9.elim
  · have hP : va_P (dC, dI) vwCl (mw g h0 b (va_up i 22 x22_1) a) _ := hP
    have hD : va_D _ (mw g h0 b (va_up i 22 x22_1) a) := hD
    refine W.eq (g2 := F0 m 5 ls [.int 1]) rfl ?_
    have hmq_10 : MI (a 19) ln sq x22_1 (i 23) (i 24) := (hM).sk hw_2
    refine lv_if_ne (tgt := 18) hx hb dX10_need_5 (by decide) (fun _ => ?_) (fun c_11 => absurd c_11 (by decide))
    refine lv_aload_n hx hb dX10_need_18 rfl (lv_at hl 0 rfl) ?_
    refine lv_dup hx hb dX10_need_19 rfl ?_
    refine va_get (D := (dC, dI)) (ci := 10) (v := .int x22_1) (C := RX10) (T := TX10) (N := 51) hx hb hts inw_X10_need_10 hown hK hP 0 rfl rfl 22 (by decide) (hts (.fieldLink RX10 168 "VatHouseModel" "at" "I") (List.mem_of_getElem? (i := 1) (by exact rfl))) (fun _ h9 => h9) rfl dX10_need_20 ?_
    refine lv_iconst (v := 1) hx hb dX10_need_23 (by decide) ?_
    refine lv_iadd hx hb dX10_need_24 ?_
    refine lv_topi (fun z_12 ez_12 => ?_)
    refine va_put (D := (dC, dI)) (ci := 10) (v := .int z_12) (ty := .int) (C := RX10) (T := TX10) (N := 51) hx hb hts inw_X10_need_10 tyX10 tyX10_ok nmX10 hown hK hP hD hS 0 rfl rfl 22 (by decide) (hts (.fieldLink RX10 168 "VatHouseModel" "at" "I") (List.mem_of_getElem? (i := 1) (by exact rfl))) (fun _ h9 => h9) rfl (tyX10_ok 22 (by decide)) rfl rfl (Nat.le_of_ble_eq_true rfl) dX10_need_25 (fun H locs hP hD hS => ?_)
    have hP : va_P (dC, dI) vwCl (mw g h0 b (va_up i 22 z_12) a) _ := hP
    have hD : va_D _ (mw g h0 b (va_up i 22 z_12) a) := hD
    refine lv_iconst (v := 1) hx hb dX10_need_28 (by decide) ?_
    exact M_z hx hb hr rfl hlocks (z_12, (i 23), (i 24)) hP hD hK hS ⟨Or.inr ⟨rfl, (hmq_10).pass hz2_3.2 hz2_3.1 (by rw [ez_12, hw_2, nx_sign hgc ((Kp_sign hgc).mp hz2_3.2).2]; exact nI_1 _)⟩, trivial⟩ (Nat.le_of_ble_eq_true rfl) (Nat.le_of_ble_eq_true rfl) dX10_need_29

noncomputable def WCI (t : Nat → Int32) (q len k n : Nat) (iw ic : Int32) : Prop := ∃ c9 : Nat, ic = nI c9 ∧ c9 ≤ 6 ∧ 6 < c9 + n ∧ (iw = 0 → ¬ mW t q len k) ∧ (¬ iw = 0 → lenS.getD k 0 = len ∧ c9 ≤ len ∧ ∀ i : Nat, i < c9 → t (q + i) = chS k i)
theorem WCI.end {t : Nat → Int32} {q len k n : Nat} {iw ic zl : Int32} (h : WCI t q len k n iw ic) (hk : k ≤ 18) (ez : zl = nI (lenS.getD k 0)) (c : zl ≤ ic) (hi : ¬ iw = 0) : mW t q len k := by
  obtain ⟨c9, h1, h2, h3, h4, h5⟩ := h
  obtain ⟨g1, g2, g3⟩ := h5 hi
  have g4 := lenS_le k hk
  rw [ez, h1, nI_leI (by omega) (by omega)] at c
  exact ⟨g1, fun i hi => g3 i (by omega)⟩
theorem WCI.nx {t : Nat → Int32} {q len k n : Nat} {iw ic zl : Int32} (h : WCI t q len k (n + 1) iw ic) (hk : k ≤ 18) (ez : zl = nI (lenS.getD k 0)) (c : ¬ zl ≤ ic) (hi : ¬ iw = 0) : ∃ c9 : Nat, ic = nI c9 ∧ c9 < lenS.getD k 0 ∧ lenS.getD k 0 = len ∧ (t (q + c9) = chS k c9 → WCI t q len k n 1 (ic + 1)) ∧ (¬ t (q + c9) = chS k c9 → WCI t q len k n 0 (ic + 1)) := by
  obtain ⟨c9, h1, h2, h3, h4, h5⟩ := h
  obtain ⟨g1, g2, g3⟩ := h5 hi
  have g4 := lenS_le k hk
  rw [ez, h1, nI_leI (by omega) (by omega)] at c
  refine ⟨c9, h1, by omega, g1, fun e => ⟨c9 + 1, by rw [h1]; exact nI_1 c9, by omega, by omega, fun g => absurd g (by decide), fun _ => ⟨g1, by omega, fun i hi => ?_⟩⟩, fun e => ⟨c9 + 1, by rw [h1]; exact nI_1 c9, by omega, by omega, fun _ g => e (g.2 c9 (by omega)), fun g => absurd rfl g⟩⟩
  rcases Nat.lt_or_ge i c9 with g | g
  · exact g3 i g
  · obtain rfl : i = c9 := by omega
    exact e
theorem WCI.st {t : Nat → Int32} {q len k : Nat} {zl z2 : Int32} (hk : k ≤ 18) (ez : zl = nI (lenS.getD k 0)) (e2 : z2 = nI len) (hl : len ≤ 1500) : (zl = z2 → WCI t q len k 7 1 0) ∧ (¬ zl = z2 → WCI t q len k 7 0 0) := by
  have g4 := lenS_le k hk
  rw [ez, e2, nI_eq (by omega) (by omega)]
  exact ⟨fun e => ⟨0, nI_0.symm, by omega, by omega, fun g => absurd g (by decide), fun _ => ⟨e, by omega, fun i hi => absurd hi (by omega)⟩⟩, fun e => ⟨0, nI_0.symm, by omega, by omega, fun _ g => e g.1, fun g => absurd rfl g⟩⟩
theorem wn_all {t : Nat → Int32} {ln q : Nat} (h : ∀ x, x < 19 → ¬ mW t q (le_ t ln q - q) x) : (-1 : Int32) = cm (Kp t ln q) := by
  rw [← word_cm]
  exact (wF_none tabM fun w hw => h w.1 ((by decide +kernel : ∀ w ∈ tabM, w.1 < 19) w hw)).symm
theorem wn_one {t : Nat → Int32} {ln q k : Nat} (hk : k ≤ 18) (h : mW t q (le_ t ln q - q) k) : nI k = cm (Kp t ln q) := by
  rw [← word_cm]
  exact (wF_at (by omega) h tabM (by decide +kernel) ((by decide +kernel : ∀ j, j < 19 → ∀ w ∈ tabM, w.1 = j → w.2 = nI j) k (by omega)) ((by decide +kernel : ∀ j, j < 19 → ∃ w ∈ tabM, w.1 = j) k (by omega))).symm

noncomputable abbrev rm_X10_word : Room := { frames := 4, cells := 0, slots := 0, locals := 141 }
theorem inw_X10_word_10 : ∀ w ∈ wsX100, w ∈ wsX10_word := fun _ h => List.mem_cons_of_mem _ (List.mem_append_right _ h)
set_option maxHeartbeats 1000000 in
set_option maxRecDepth 100000 in
theorem m_X10_word (l : Launch) (dC : Nat → ClassId) (dI : Nat → Nat → Nat) (sa : Nat → Nat) (g : Nat → Nat) (h0 : Nat) (b : Nat → Nat) (ln : Nat) (sq : SG) (i : Nat → Int32) (a : Nat → Nat → Int32) (sz : Nat) (hL : (i 21) = nI ln ∧ ln ≤ 1500) (hM : MI (a 19) ln sq (i 22) (i 23) (i 24)) : CT l dC dI sa yX10_word wsX10_word rm_X10_word [.ref h0] (mw g h0 b i a) (tyM g) sz (fun (r : Option Value) (x22 : Int32) => (∃ z : Int32, r = some (.int z) ∧ (z = cm (Kp (a 19) ln sq.1))) ∧ (x22 = nI sq.1)) (fun (x22 : Int32) => mw g h0 b (va_up i 22 x22) a) (fun _ => []) 0 0 := by
  refine CT.start (cc := cX10_word) (maxL := 6) (ret := (some .int)) (by decide) rfl (Nat.le_of_ble_eq_true rfl) ?_
  intro p e s m below meth c ls hst hP hK hD hev hS hl
  obtain ⟨hx, hb, hr, hml, hts, hown, hlocks, hin⟩ := hst
  have hown : s.vm.findClass RX10 = some m.cls := hown
  have hA : ∀ q : Nat, s.heap.size ≤ q → va_A (mw g h0 b i a) s.heap.size q := fun _ h => Or.inr h
  have hl : lv_has ls 6 [(0, .ref h0)] := hl
  refine lv_aload_n hx hb dX10_word_0 rfl (lv_at hl 0 rfl) ?_
  refine M_V ⟨hx, hb, hml, hown, hts⟩ (m_X10_skip l dC dI sa g h0 b ln sq i a  _ hL hM) (cwV 0 hts gX10_word_X10_skip rfl rfl rfl (by decide +kernel) ⟨Nat.le_of_ble_eq_true rfl, Nat.le_of_ble_eq_true rfl⟩) hP hD hK hS hA hev rfl rfl rfl rfl hl.1 rfl (Nat.le_of_ble_eq_true rfl) dX10_word_1 ⟨(Nat.le_of_ble_eq_true rfl), (Nat.le_of_ble_eq_true rfl)⟩ (fun r u H locs hw hP hD hS => ?_)
  obtain ⟨x22_1, rfl⟩ : ∃ z, z = u := ⟨_, rfl⟩
  have hw : (r = none) ∧ (x22_1 = nI sq.1) := hw
  obtain ⟨rfl, hw_2⟩ := hw
  have hP : va_P (dC, dI) vwCl (mw g h0 b (va_up i 22 x22_1) a) _ := hP
  have hD : va_D _ (mw g h0 b (va_up i 22 x22_1) a) := hD
  refine W.eq (g2 := F0 m 4 ls []) rfl ?_
  have hmq_3 : MI (a 19) ln sq x22_1 (i 23) (i 24) := (hM).sk hw_2
  refine lv_aload_n hx hb dX10_word_4 rfl (lv_at hl 0 rfl) ?_
  refine va_get (D := (dC, dI)) (ci := 10) (v := .int x22_1) (C := RX10) (T := TX10) (N := 51) hx hb hts inw_X10_word_10 hown hK hP 0 rfl rfl 22 (by decide) (hts (.fieldLink RX10 168 "VatHouseModel" "at" "I") (List.mem_of_getElem? (i := 1) (by exact rfl))) (fun _ h9 => h9) rfl dX10_word_5 ?_
  refine lv_istore_n (lv' := [(1, .int x22_1), (0, .ref h0)]) hx hb dX10_word_8 rfl hl (by decide) rfl (fun ls hl => ?_)
  have lpA : ∀ (nA : Nat) (en : Int32) (H : Heap) (locs : List Loc) (ls : Array Slot), (∃ p1 : Nat, en = nI p1 ∧ sq.1 ≤ p1 ∧ p1 ≤ ln ∧ ln < p1 + nA ∧ le_ (a 19) ln p1 = le_ (a 19) ln sq.1) → va_P (dC, dI) vwCl (mw g h0 b (va_up i 22 x22_1) a) H → va_D (va_A (mw g h0 b i a) s.heap.size) (mw g h0 b (va_up i 22 x22_1) a) → va_S (va_A (mw g h0 b i a) s.heap.size) s.heap H locs → lv_has ls 6 [(1, .int en), (0, .ref h0)] → W p l e rm_X10_word s m [.ref h0].toArray below meth c H locs 0 0 (MQ below (Qg (fun (r : Option Value) (x22 : Int32) => (∃ z : Int32, r = some (.int z) ∧ (z = cm (Kp (a 19) ln sq.1))) ∧ (x22 = nI sq.1)) (fun u t => QW dC dI (va_A (mw g h0 b i a) s.heap.size) ((fun (x22 : Int32) => mw g h0 b (va_up i 22 x22) a) u) [] t) (va_A (mw g h0 b i a) s.heap.size)) [.ref h0].toArray s 0 0 (va_A (mw g h0 b i a) s.heap.size)) (F0 m 9 ls []) := by
    intro nA
    induction nA with
    | zero => intro en H locs ls hmA  hP hD hS hl; exact absurd hmA (by rintro ⟨p1, -, -, h1, h2, -⟩; omega)
    | succ nA ihA =>
      intro en H locs ls hmA  hP hD hS hl
      refine lv_iload_n hx hb dX10_word_9 rfl (lv_at hl 0 rfl) ?_
      refine lv_aload_n hx hb dX10_word_10 rfl (lv_at hl 1 rfl) ?_
      refine va_get (D := (dC, dI)) (ci := 10) (v := .int (i 21)) (C := RX10) (T := TX10) (N := 51) hx hb hts inw_X10_word_10 hown hK hP 0 rfl rfl 21 (by decide) (hts (.fieldLink RX10 171 "VatHouseModel" "size" "I") (List.mem_of_getElem? (i := 2) (by exact rfl))) (fun _ h9 => h9) rfl dX10_word_11 ?_
      refine lv_icmp_ge (tgt := 35) hx hb dX10_word_14 (by decide) (fun c_4 => ?_) (fun c_4 => ?_)
      · have nc_4 := le_i c_4
        obtain ⟨p1, hp1, hp2, hp3, hp4, hp5⟩ := hmA
        have hE : p1 = le_ (a 19) ln sq.1 := by rw [← hp5]; exact (re_stop (Or.inl (pl_ge hp1 hL.1 (by omega) (by omega) c_4))).symm
        refine lv_iconst (v := 0) hx hb dX10_word_35 (by decide) ?_
        refine lv_istore_n (lv' := [(2, .int 0), (1, .int en), (0, .ref h0)]) hx hb dX10_word_36 rfl hl (by decide) rfl (fun ls hl => ?_)
        have lpB : ∀ (nB : Nat) (kw : Int32) (H : Heap) (locs : List Loc) (ls : Array Slot), (∃ k9 : Nat, kw = nI k9 ∧ k9 ≤ 18 + 1 ∧ 18 + 1 < k9 + nB ∧ ∀ x : Nat, x < k9 → ¬ mW (a 19) sq.1 (le_ (a 19) ln sq.1 - sq.1) x) → va_P (dC, dI) vwCl (mw g h0 b (va_up i 22 x22_1) a) H → va_D (va_A (mw g h0 b i a) s.heap.size) (mw g h0 b (va_up i 22 x22_1) a) → va_S (va_A (mw g h0 b i a) s.heap.size) s.heap H locs → lv_has ls 6 [(2, .int kw), (1, .int en), (0, .ref h0)] → W p l e rm_X10_word s m [.ref h0].toArray below meth c H locs 0 0 (MQ below (Qg (fun (r : Option Value) (x22 : Int32) => (∃ z : Int32, r = some (.int z) ∧ (z = cm (Kp (a 19) ln sq.1))) ∧ (x22 = nI sq.1)) (fun u t => QW dC dI (va_A (mw g h0 b i a) s.heap.size) ((fun (x22 : Int32) => mw g h0 b (va_up i 22 x22) a) u) [] t) (va_A (mw g h0 b i a) s.heap.size)) [.ref h0].toArray s 0 0 (va_A (mw g h0 b i a) s.heap.size)) (F0 m 37 ls []) := by
          intro nB
          induction nB with
          | zero => intro kw H locs ls hmB  hP hD hS hl; exact absurd hmB (by rintro ⟨k9, -, h1, h2, -⟩; omega)
          | succ nB ihB =>
            intro kw H locs ls hmB  hP hD hS hl
            refine lv_iload_n hx hb dX10_word_37 rfl (lv_at hl 0 rfl) ?_
            refine lv_bipush (v := 18) hx hb dX10_word_38 (by decide) ?_
            refine lv_icmp_gt (tgt := 132) hx hb dX10_word_40 (by decide) (fun c_5 => ?_) (fun c_5 => ?_)
            · have nc_5 := lt_i c_5
              have lc_5 : (18 : Int32).toInt = 18 := by decide
              obtain ⟨k9, hk1, hk2, hk3, hk4⟩ := hmB
              have hk19 : k9 = 19 := by have h9 : nI 18 < kw := c_5; rw [hk1, nI_ltI (by omega) (by omega)] at h9; omega
              refine lv_iconst (v := (-1)) hx hb dX10_word_132 (by decide) ?_
              exact M_i hx hb hr hlocks (x22_1) hP hD hK hS ⟨⟨_, rfl, wn_all (fun x9 hx9 => hk4 x9 (by omega))⟩, hw_2⟩ (Nat.le_of_ble_eq_true rfl) (Nat.le_of_ble_eq_true rfl) dX10_word_133
            · have nc_5 := nlt_i c_5
              have lc_5 : (18 : Int32).toInt = 18 := by decide
              obtain ⟨k9, hk1, hk2, hk3, hk4⟩ := hmB
              have hk18 : k9 ≤ 18 := by have h9 : ¬ nI 18 < kw := c_5; rw [hk1, nI_ltI (by omega) (by omega)] at h9; omega
              refine lv_iload_n hx hb dX10_word_43 rfl (lv_at hl 0 rfl) ?_
              refine pu_S (v := some (.ref (sa (5 + k9)))) ⟨hx, hb, hml, hown, hts⟩ (pu_nameOf l dC dI sa k9 hk18 kw hk1 _) (va_cwS 1 hts gX10_word_X10_nameOf rfl rfl rfl (by decide +kernel) ⟨Nat.le_of_ble_eq_true rfl, Nat.le_of_ble_eq_true rfl⟩) hP hK hS hA hev rfl hl.1 rfl (Nat.le_of_ble_eq_true rfl) dX10_word_44 ⟨Nat.le_of_ble_eq_true rfl, Nat.le_of_ble_eq_true rfl⟩ (fun H locs hP hS => ?_)
              refine W.eq (g2 := F0 m 47 ls [.ref (sa (5 + k9))]) rfl ?_
              refine lv_astore_n (lv' := [(3, .ref (sa (5 + k9))), (2, .int kw), (1, .int en), (0, .ref h0)]) hx hb dX10_word_47 rfl hl (by decide) rfl (fun ls hl => ?_)
              refine lv_aload_n hx hb dX10_word_48 rfl (lv_at hl 0 rfl) ?_
              refine pu_V (i := k9) (v := some (.int (nI (lenS.getD k9 0)))) ⟨hx, hb, hml, hown, hts⟩ (pu_length l dC dI sa k9 _ (by omega)) (cwV 0 hts gX10_word_J0_length_8abf5 rfl rfl rfl (by decide +kernel) ⟨Nat.le_of_ble_eq_true rfl, Nat.le_of_ble_eq_true rfl⟩) hP hK hS hA hev (by omega) rfl hl.1 rfl (Nat.le_of_ble_eq_true rfl) dX10_word_49 ⟨Nat.le_of_ble_eq_true rfl, Nat.le_of_ble_eq_true rfl⟩ (fun H locs hP hS => ?_)
              refine W.eq (g2 := F0 m 52 ls [.int (nI (lenS.getD k9 0))]) rfl ?_
              refine lv_topi (fun z_6 ez_6 => ?_)
              refine lv_iload_n hx hb dX10_word_52 rfl (lv_at hl 2 rfl) ?_
              refine lv_aload_n hx hb dX10_word_53 rfl (lv_at hl 3 rfl) ?_
              refine va_get (D := (dC, dI)) (ci := 10) (v := .int x22_1) (C := RX10) (T := TX10) (N := 51) hx hb hts inw_X10_word_10 hown hK hP 0 rfl rfl 22 (by decide) (hts (.fieldLink RX10 168 "VatHouseModel" "at" "I") (List.mem_of_getElem? (i := 1) (by exact rfl))) (fun _ h9 => h9) rfl dX10_word_54 ?_
              refine lv_isub hx hb dX10_word_57 ?_
              refine lv_topi (fun z_7 ez_7 => ?_)
              have hst := WCI.st (t := (a 19)) (q := sq.1) (len := le_ (a 19) ln sq.1 - sq.1) (z2 := z_7) hk18 ez_6 (by rw [ez_7, hp1, hw_2, hE, nI_sub (by omega)]) (by have := hL.2; omega)
              refine lv_icmp_ne (tgt := 65) hx hb dX10_word_58 (by decide) (fun c_8 => ?_) (fun c_8 => ?_)
              · have nc_8 := ne_i c_8
                refine lv_iconst (v := 0) hx hb dX10_word_65 (by decide) ?_
                refine lv_istore (lv' := [(4, .int 0), (3, .ref (sa (5 + k9))), (2, .int kw), (1, .int en), (0, .ref h0)]) hx hb dX10_word_66 hl (by decide) rfl (fun ls hl => ?_)
                refine lv_iconst (v := 0) hx hb dX10_word_68 (by decide) ?_
                refine lv_istore (lv' := [(5, .int 0), (4, .int 0), (3, .ref (sa (5 + k9))), (2, .int kw), (1, .int en), (0, .ref h0)]) hx hb dX10_word_69 hl (by decide) rfl (fun ls hl => ?_)
                have lp : ∀ (n : Nat) (iw : Int32) (ic : Int32) (H : Heap) (locs : List Loc) (ls : Array Slot), (WCI (a 19) sq.1 (le_ (a 19) ln sq.1 - sq.1) k9 n iw ic) → va_P (dC, dI) vwCl (mw g h0 b (va_up i 22 x22_1) a) H → va_D (va_A (mw g h0 b i a) s.heap.size) (mw g h0 b (va_up i 22 x22_1) a) → va_S (va_A (mw g h0 b i a) s.heap.size) s.heap H locs → lv_has ls 6 [(4, .int iw), (5, .int ic), (3, .ref (sa (5 + k9))), (2, .int kw), (1, .int en), (0, .ref h0)] → W p l e rm_X10_word s m [.ref h0].toArray below meth c H locs 0 0 (MQ below (Qg (fun (r : Option Value) (x22 : Int32) => (∃ z : Int32, r = some (.int z) ∧ (z = cm (Kp (a 19) ln sq.1))) ∧ (x22 = nI sq.1)) (fun u t => QW dC dI (va_A (mw g h0 b i a) s.heap.size) ((fun (x22 : Int32) => mw g h0 b (va_up i 22 x22) a) u) [] t) (va_A (mw g h0 b i a) s.heap.size)) [.ref h0].toArray s 0 0 (va_A (mw g h0 b i a) s.heap.size)) (F0 m 71 ls []) := by
                  intro n
                  induction n with
                  | zero => intro iw ic H locs ls hm  hP hD hS hl; exact absurd hm (by rintro ⟨c9, -, h1, h2, -⟩; omega)
                  | succ n ih =>
                    intro iw ic H locs ls hm  hP hD hS hl
                    refine lv_iload hx hb dX10_word_71 (lv_at hl 1 rfl) ?_
                    refine lv_aload_n hx hb dX10_word_73 rfl (lv_at hl 2 rfl) ?_
                    refine pu_V (i := k9) (v := some (.int (nI (lenS.getD k9 0)))) ⟨hx, hb, hml, hown, hts⟩ (pu_length l dC dI sa k9 _ (by omega)) (cwV 0 hts gX10_word_J0_length_8abf5 rfl rfl rfl (by decide +kernel) ⟨Nat.le_of_ble_eq_true rfl, Nat.le_of_ble_eq_true rfl⟩) hP hK hS hA hev (by omega) rfl hl.1 rfl (Nat.le_of_ble_eq_true rfl) dX10_word_74 ⟨Nat.le_of_ble_eq_true rfl, Nat.le_of_ble_eq_true rfl⟩ (fun H locs hP hS => ?_)
                    refine W.eq (g2 := F0 m 77 ls [.int (nI (lenS.getD k9 0)), .int ic]) rfl ?_
                    refine lv_topi (fun z_9 ez_9 => ?_)
                    refine lv_icmp_ge (tgt := 119) hx hb dX10_word_77 (by decide) (fun c_10 => ?_) (fun c_10 => ?_)
                    · have nc_10 := le_i c_10
                      refine lv_iload hx hb dX10_word_119 (lv_at hl 0 rfl) ?_
                      refine lv_if_eq (tgt := 126) hx hb dX10_word_121 (by decide) (fun c_11 => ?_) (fun c_11 => ?_)
                      · have nc_11 := eq_i c_11
                        have lc_11 : (0 : Int32).toInt = 0 := by decide
                        have hno : ¬ mW (a 19) sq.1 (le_ (a 19) ln sq.1 - sq.1) k9 := by obtain ⟨c9, -, -, -, h9, -⟩ := hm; exact h9 c_11
                        refine lv_iinc (v := (kw + 1)) (lv' := [(2, .int (kw + 1)), (4, .int iw), (5, .int ic), (3, .ref (sa (5 + k9))), (1, .int en), (0, .ref h0)]) hx hb dX10_word_126 hl (k := 3) rfl rfl (by decide) rfl (fun ls hl => ?_)
                        refine lv_goto (tgt := 37) hx hb dX10_word_129 (by decide) ?_
                        exact ihB (kw + 1) _ _ _ (⟨k9 + 1, by rw [hk1]; exact nI_1 k9, by omega, by omega, fun x9 hx9 => by rcases Nat.lt_or_ge x9 k9 with h9 | h9; exact hk4 x9 h9; obtain rfl : x9 = k9 := (by omega); exact hno⟩)  hP hD hS (lv_sub hl [0, 4, 5] rfl)
                      · have nc_11 := ne_i c_11
                        have lc_11 : (0 : Int32).toInt = 0 := by decide
                        refine lv_iload_n hx hb dX10_word_124 rfl (lv_at hl 3 rfl) ?_
                        exact M_i hx hb hr hlocks (x22_1) hP hD hK hS ⟨⟨_, rfl, by rw [hk1]; exact wn_one hk18 (hm.end hk18 ez_9 c_10 c_11)⟩, hw_2⟩ (Nat.le_of_ble_eq_true rfl) (Nat.le_of_ble_eq_true rfl) dX10_word_125
                    · have nc_10 := nle_i c_10
                      refine lv_iload hx hb dX10_word_80 (lv_at hl 0 rfl) ?_
                      refine lv_if_eq (tgt := 119) hx hb dX10_word_82 (by decide) (fun c_12 => ?_) (fun c_12 => ?_)
                      · have nc_12 := eq_i c_12
                        have lc_12 : (0 : Int32).toInt = 0 := by decide
                        refine lv_iload hx hb dX10_word_119 (lv_at hl 0 rfl) ?_
                        refine lv_if_eq (tgt := 126) hx hb dX10_word_121 (by decide) (fun c_13 => ?_) (fun c_13 => ?_)
                        · have nc_13 := eq_i c_13
                          have lc_13 : (0 : Int32).toInt = 0 := by decide
                          have hno : ¬ mW (a 19) sq.1 (le_ (a 19) ln sq.1 - sq.1) k9 := by obtain ⟨c9, -, -, -, h9, -⟩ := hm; exact h9 c_13
                          refine lv_iinc (v := (kw + 1)) (lv' := [(2, .int (kw + 1)), (4, .int iw), (5, .int ic), (3, .ref (sa (5 + k9))), (1, .int en), (0, .ref h0)]) hx hb dX10_word_126 hl (k := 3) rfl rfl (by decide) rfl (fun ls hl => ?_)
                          refine lv_goto (tgt := 37) hx hb dX10_word_129 (by decide) ?_
                          exact ihB (kw + 1) _ _ _ (⟨k9 + 1, by rw [hk1]; exact nI_1 k9, by omega, by omega, fun x9 hx9 => by rcases Nat.lt_or_ge x9 k9 with h9 | h9; exact hk4 x9 h9; obtain rfl : x9 = k9 := (by omega); exact hno⟩)  hP hD hS (lv_sub hl [0, 4, 5] rfl)
                        · have nc_13 := ne_i c_13
                          have lc_13 : (0 : Int32).toInt = 0 := by decide
                          exact absurd c_12 c_13
                      · have nc_12 := ne_i c_12
                        have lc_12 : (0 : Int32).toInt = 0 := by decide
                        obtain ⟨c9, hc1, hc6, hc7, hc8, hc9⟩ := hm.nx hk18 ez_9 c_10 c_12
                        refine lv_aload_n hx hb dX10_word_85 rfl (lv_at hl 2 rfl) ?_
                        refine lv_iload hx hb dX10_word_86 (lv_at hl 1 rfl) ?_
                        refine pu_V (i := k9) (v := some (.int (chS k9 c9))) ⟨hx, hb, hml, hown, hts⟩ (pu_charAtX l dC dI sa k9 c9 ic _ hc1 (by omega) hc6) (cwV 1 hts gX10_word_J0_charAt_5068e rfl rfl rfl (by decide +kernel) ⟨Nat.le_of_ble_eq_true rfl, Nat.le_of_ble_eq_true rfl⟩) hP hK hS hA hev (by omega) rfl hl.1 rfl (Nat.le_of_ble_eq_true rfl) dX10_word_88 ⟨Nat.le_of_ble_eq_true rfl, Nat.le_of_ble_eq_true rfl⟩ (fun H locs hP hS => ?_)
                        refine W.eq (g2 := F0 m 91 ls [.int (chS k9 c9)]) rfl ?_
                        refine lv_topi (fun z_14 ez_14 => ?_)
                        refine lv_aload_n hx hb dX10_word_91 rfl (lv_at hl 5 rfl) ?_
                        refine va_get (D := (dC, dI)) (ci := 10) (v := .ref (b 19)) (C := RX10) (T := TX10) (N := 51) hx hb hts inw_X10_word_10 hown hK hP 0 rfl rfl 19 (by decide) (hts (.fieldLink RX10 53 "VatHouseModel" "tape" "[I") (List.mem_of_getElem? (i := 3) (by exact rfl))) (fun _ h9 => h9) rfl dX10_word_92 ?_
                        refine lv_aload_n hx hb dX10_word_95 rfl (lv_at hl 5 rfl) ?_
                        refine va_get (D := (dC, dI)) (ci := 10) (v := .int x22_1) (C := RX10) (T := TX10) (N := 51) hx hb hts inw_X10_word_10 hown hK hP 0 rfl rfl 22 (by decide) (hts (.fieldLink RX10 168 "VatHouseModel" "at" "I") (List.mem_of_getElem? (i := 1) (by exact rfl))) (fun _ h9 => h9) rfl dX10_word_96 ?_
                        refine lv_iload hx hb dX10_word_99 (lv_at hl 1 rfl) ?_
                        refine lv_iadd hx hb dX10_word_101 ?_
                        refine lv_topi (fun z_15 ez_15 => ?_)
                        refine va_iald hx hb hK hP 15 14 rfl rfl (by rw [ez_15, hw_2, hc1, nI_add]; exact vp_in_nI (by have := hL.2; omega) (by decide)) dX10_word_102 ?_
                        refine lv_topi (fun z_16 ez_16 => ?_)
                        have ez_16 : z_16 = (a 19) z_15.toNatClampNeg := ez_16
                        have hzc : z_16 = (a 19) (sq.1 + c9) := ld_at ez_16 (by rw [ez_15, hw_2, hc1, nI_add]) (by have := hL.2; omega)
                        refine lv_icmp_ne (tgt := 110) hx hb dX10_word_103 (by decide) (fun c_17 => ?_) (fun c_17 => ?_)
                        · have nc_17 := ne_i c_17
                          refine lv_iconst (v := 0) hx hb dX10_word_110 (by decide) ?_
                          refine lv_istore (lv' := [(4, .int 0), (5, .int ic), (3, .ref (sa (5 + k9))), (2, .int kw), (1, .int en), (0, .ref h0)]) hx hb dX10_word_111 hl (by decide) rfl (fun ls hl => ?_)
                          refine lv_iinc (v := (ic + 1)) (lv' := [(5, .int (ic + 1)), (4, .int 0), (3, .ref (sa (5 + k9))), (2, .int kw), (1, .int en), (0, .ref h0)]) hx hb dX10_word_113 hl (k := 1) rfl rfl (by decide) rfl (fun ls hl => ?_)
                          refine lv_goto (tgt := 71) hx hb dX10_word_116 (by decide) ?_
                          exact ih (0 : Int32) (ic + 1) _ _ _ (hc9 (by rw [← hzc, ← ez_14]; exact fun h9 => c_17 h9.symm))  hP hD hS (lv_sub hl [1, 0, 2, 3, 4, 5] rfl)
                        · have nc_17 := eq_i c_17
                          refine lv_iconst (v := 1) hx hb dX10_word_106 (by decide) ?_
                          refine lv_goto (tgt := 111) hx hb dX10_word_107 (by decide) ?_
                          refine lv_istore (lv' := [(4, .int 1), (5, .int ic), (3, .ref (sa (5 + k9))), (2, .int kw), (1, .int en), (0, .ref h0)]) hx hb dX10_word_111 hl (by decide) rfl (fun ls hl => ?_)
                          refine lv_iinc (v := (ic + 1)) (lv' := [(5, .int (ic + 1)), (4, .int 1), (3, .ref (sa (5 + k9))), (2, .int kw), (1, .int en), (0, .ref h0)]) hx hb dX10_word_113 hl (k := 1) rfl rfl (by decide) rfl (fun ls hl => ?_)
                          refine lv_goto (tgt := 71) hx hb dX10_word_116 (by decide) ?_
                          exact ih (1 : Int32) (ic + 1) _ _ _ (hc8 (by rw [← hzc, ← ez_14]; exact c_17.symm))  hP hD hS (lv_sub hl [1, 0, 2, 3, 4, 5] rfl)
                exact lp 7 (0 : Int32) (0 : Int32) _ _ _ (hst.2 c_8)  hP hD hS (lv_sub hl [1, 0, 2, 3, 4, 5] rfl)
              · have nc_8 := eq_i c_8
                refine lv_iconst (v := 1) hx hb dX10_word_61 (by decide) ?_
                refine lv_goto (tgt := 66) hx hb dX10_word_62 (by decide) ?_
                refine lv_istore (lv' := [(4, .int 1), (3, .ref (sa (5 + k9))), (2, .int kw), (1, .int en), (0, .ref h0)]) hx hb dX10_word_66 hl (by decide) rfl (fun ls hl => ?_)
                refine lv_iconst (v := 0) hx hb dX10_word_68 (by decide) ?_
                refine lv_istore (lv' := [(5, .int 0), (4, .int 1), (3, .ref (sa (5 + k9))), (2, .int kw), (1, .int en), (0, .ref h0)]) hx hb dX10_word_69 hl (by decide) rfl (fun ls hl => ?_)
                have lp : ∀ (n : Nat) (iw : Int32) (ic : Int32) (H : Heap) (locs : List Loc) (ls : Array Slot), (WCI (a 19) sq.1 (le_ (a 19) ln sq.1 - sq.1) k9 n iw ic) → va_P (dC, dI) vwCl (mw g h0 b (va_up i 22 x22_1) a) H → va_D (va_A (mw g h0 b i a) s.heap.size) (mw g h0 b (va_up i 22 x22_1) a) → va_S (va_A (mw g h0 b i a) s.heap.size) s.heap H locs → lv_has ls 6 [(4, .int iw), (5, .int ic), (3, .ref (sa (5 + k9))), (2, .int kw), (1, .int en), (0, .ref h0)] → W p l e rm_X10_word s m [.ref h0].toArray below meth c H locs 0 0 (MQ below (Qg (fun (r : Option Value) (x22 : Int32) => (∃ z : Int32, r = some (.int z) ∧ (z = cm (Kp (a 19) ln sq.1))) ∧ (x22 = nI sq.1)) (fun u t => QW dC dI (va_A (mw g h0 b i a) s.heap.size) ((fun (x22 : Int32) => mw g h0 b (va_up i 22 x22) a) u) [] t) (va_A (mw g h0 b i a) s.heap.size)) [.ref h0].toArray s 0 0 (va_A (mw g h0 b i a) s.heap.size)) (F0 m 71 ls []) := by
                  intro n
                  induction n with
                  | zero => intro iw ic H locs ls hm  hP hD hS hl; exact absurd hm (by rintro ⟨c9, -, h1, h2, -⟩; omega)
                  | succ n ih =>
                    intro iw ic H locs ls hm  hP hD hS hl
                    refine lv_iload hx hb dX10_word_71 (lv_at hl 1 rfl) ?_
                    refine lv_aload_n hx hb dX10_word_73 rfl (lv_at hl 2 rfl) ?_
                    refine pu_V (i := k9) (v := some (.int (nI (lenS.getD k9 0)))) ⟨hx, hb, hml, hown, hts⟩ (pu_length l dC dI sa k9 _ (by omega)) (cwV 0 hts gX10_word_J0_length_8abf5 rfl rfl rfl (by decide +kernel) ⟨Nat.le_of_ble_eq_true rfl, Nat.le_of_ble_eq_true rfl⟩) hP hK hS hA hev (by omega) rfl hl.1 rfl (Nat.le_of_ble_eq_true rfl) dX10_word_74 ⟨Nat.le_of_ble_eq_true rfl, Nat.le_of_ble_eq_true rfl⟩ (fun H locs hP hS => ?_)
                    refine W.eq (g2 := F0 m 77 ls [.int (nI (lenS.getD k9 0)), .int ic]) rfl ?_
                    refine lv_topi (fun z_18 ez_18 => ?_)
                    refine lv_icmp_ge (tgt := 119) hx hb dX10_word_77 (by decide) (fun c_19 => ?_) (fun c_19 => ?_)
                    · have nc_19 := le_i c_19
                      refine lv_iload hx hb dX10_word_119 (lv_at hl 0 rfl) ?_
                      refine lv_if_eq (tgt := 126) hx hb dX10_word_121 (by decide) (fun c_20 => ?_) (fun c_20 => ?_)
                      · have nc_20 := eq_i c_20
                        have lc_20 : (0 : Int32).toInt = 0 := by decide
                        have hno : ¬ mW (a 19) sq.1 (le_ (a 19) ln sq.1 - sq.1) k9 := by obtain ⟨c9, -, -, -, h9, -⟩ := hm; exact h9 c_20
                        refine lv_iinc (v := (kw + 1)) (lv' := [(2, .int (kw + 1)), (4, .int iw), (5, .int ic), (3, .ref (sa (5 + k9))), (1, .int en), (0, .ref h0)]) hx hb dX10_word_126 hl (k := 3) rfl rfl (by decide) rfl (fun ls hl => ?_)
                        refine lv_goto (tgt := 37) hx hb dX10_word_129 (by decide) ?_
                        exact ihB (kw + 1) _ _ _ (⟨k9 + 1, by rw [hk1]; exact nI_1 k9, by omega, by omega, fun x9 hx9 => by rcases Nat.lt_or_ge x9 k9 with h9 | h9; exact hk4 x9 h9; obtain rfl : x9 = k9 := (by omega); exact hno⟩)  hP hD hS (lv_sub hl [0, 4, 5] rfl)
                      · have nc_20 := ne_i c_20
                        have lc_20 : (0 : Int32).toInt = 0 := by decide
                        refine lv_iload_n hx hb dX10_word_124 rfl (lv_at hl 3 rfl) ?_
                        exact M_i hx hb hr hlocks (x22_1) hP hD hK hS ⟨⟨_, rfl, by rw [hk1]; exact wn_one hk18 (hm.end hk18 ez_18 c_19 c_20)⟩, hw_2⟩ (Nat.le_of_ble_eq_true rfl) (Nat.le_of_ble_eq_true rfl) dX10_word_125
                    · have nc_19 := nle_i c_19
                      refine lv_iload hx hb dX10_word_80 (lv_at hl 0 rfl) ?_
                      refine lv_if_eq (tgt := 119) hx hb dX10_word_82 (by decide) (fun c_21 => ?_) (fun c_21 => ?_)
                      · have nc_21 := eq_i c_21
                        have lc_21 : (0 : Int32).toInt = 0 := by decide
                        refine lv_iload hx hb dX10_word_119 (lv_at hl 0 rfl) ?_
                        refine lv_if_eq (tgt := 126) hx hb dX10_word_121 (by decide) (fun c_22 => ?_) (fun c_22 => ?_)
                        · have nc_22 := eq_i c_22
                          have lc_22 : (0 : Int32).toInt = 0 := by decide
                          have hno : ¬ mW (a 19) sq.1 (le_ (a 19) ln sq.1 - sq.1) k9 := by obtain ⟨c9, -, -, -, h9, -⟩ := hm; exact h9 c_22
                          refine lv_iinc (v := (kw + 1)) (lv' := [(2, .int (kw + 1)), (4, .int iw), (5, .int ic), (3, .ref (sa (5 + k9))), (1, .int en), (0, .ref h0)]) hx hb dX10_word_126 hl (k := 3) rfl rfl (by decide) rfl (fun ls hl => ?_)
                          refine lv_goto (tgt := 37) hx hb dX10_word_129 (by decide) ?_
                          exact ihB (kw + 1) _ _ _ (⟨k9 + 1, by rw [hk1]; exact nI_1 k9, by omega, by omega, fun x9 hx9 => by rcases Nat.lt_or_ge x9 k9 with h9 | h9; exact hk4 x9 h9; obtain rfl : x9 = k9 := (by omega); exact hno⟩)  hP hD hS (lv_sub hl [0, 4, 5] rfl)
                        · have nc_22 := ne_i c_22
                          have lc_22 : (0 : Int32).toInt = 0 := by decide
                          exact absurd c_21 c_22
                      · have nc_21 := ne_i c_21
                        have lc_21 : (0 : Int32).toInt = 0 := by decide
                        obtain ⟨c9, hc1, hc6, hc7, hc8, hc9⟩ := hm.nx hk18 ez_18 c_19 c_21
                        refine lv_aload_n hx hb dX10_word_85 rfl (lv_at hl 2 rfl) ?_
                        refine lv_iload hx hb dX10_word_86 (lv_at hl 1 rfl) ?_
                        refine pu_V (i := k9) (v := some (.int (chS k9 c9))) ⟨hx, hb, hml, hown, hts⟩ (pu_charAtX l dC dI sa k9 c9 ic _ hc1 (by omega) hc6) (cwV 1 hts gX10_word_J0_charAt_5068e rfl rfl rfl (by decide +kernel) ⟨Nat.le_of_ble_eq_true rfl, Nat.le_of_ble_eq_true rfl⟩) hP hK hS hA hev (by omega) rfl hl.1 rfl (Nat.le_of_ble_eq_true rfl) dX10_word_88 ⟨Nat.le_of_ble_eq_true rfl, Nat.le_of_ble_eq_true rfl⟩ (fun H locs hP hS => ?_)
                        refine W.eq (g2 := F0 m 91 ls [.int (chS k9 c9)]) rfl ?_
                        refine lv_topi (fun z_23 ez_23 => ?_)
                        refine lv_aload_n hx hb dX10_word_91 rfl (lv_at hl 5 rfl) ?_
                        refine va_get (D := (dC, dI)) (ci := 10) (v := .ref (b 19)) (C := RX10) (T := TX10) (N := 51) hx hb hts inw_X10_word_10 hown hK hP 0 rfl rfl 19 (by decide) (hts (.fieldLink RX10 53 "VatHouseModel" "tape" "[I") (List.mem_of_getElem? (i := 3) (by exact rfl))) (fun _ h9 => h9) rfl dX10_word_92 ?_
                        refine lv_aload_n hx hb dX10_word_95 rfl (lv_at hl 5 rfl) ?_
                        refine va_get (D := (dC, dI)) (ci := 10) (v := .int x22_1) (C := RX10) (T := TX10) (N := 51) hx hb hts inw_X10_word_10 hown hK hP 0 rfl rfl 22 (by decide) (hts (.fieldLink RX10 168 "VatHouseModel" "at" "I") (List.mem_of_getElem? (i := 1) (by exact rfl))) (fun _ h9 => h9) rfl dX10_word_96 ?_
                        refine lv_iload hx hb dX10_word_99 (lv_at hl 1 rfl) ?_
                        refine lv_iadd hx hb dX10_word_101 ?_
                        refine lv_topi (fun z_24 ez_24 => ?_)
                        refine va_iald hx hb hK hP 15 14 rfl rfl (by rw [ez_24, hw_2, hc1, nI_add]; exact vp_in_nI (by have := hL.2; omega) (by decide)) dX10_word_102 ?_
                        refine lv_topi (fun z_25 ez_25 => ?_)
                        have ez_25 : z_25 = (a 19) z_24.toNatClampNeg := ez_25
                        have hzc : z_25 = (a 19) (sq.1 + c9) := ld_at ez_25 (by rw [ez_24, hw_2, hc1, nI_add]) (by have := hL.2; omega)
                        refine lv_icmp_ne (tgt := 110) hx hb dX10_word_103 (by decide) (fun c_26 => ?_) (fun c_26 => ?_)
                        · have nc_26 := ne_i c_26
                          refine lv_iconst (v := 0) hx hb dX10_word_110 (by decide) ?_
                          refine lv_istore (lv' := [(4, .int 0), (5, .int ic), (3, .ref (sa (5 + k9))), (2, .int kw), (1, .int en), (0, .ref h0)]) hx hb dX10_word_111 hl (by decide) rfl (fun ls hl => ?_)
                          refine lv_iinc (v := (ic + 1)) (lv' := [(5, .int (ic + 1)), (4, .int 0), (3, .ref (sa (5 + k9))), (2, .int kw), (1, .int en), (0, .ref h0)]) hx hb dX10_word_113 hl (k := 1) rfl rfl (by decide) rfl (fun ls hl => ?_)
                          refine lv_goto (tgt := 71) hx hb dX10_word_116 (by decide) ?_
                          exact ih (0 : Int32) (ic + 1) _ _ _ (hc9 (by rw [← hzc, ← ez_23]; exact fun h9 => c_26 h9.symm))  hP hD hS (lv_sub hl [1, 0, 2, 3, 4, 5] rfl)
                        · have nc_26 := eq_i c_26
                          refine lv_iconst (v := 1) hx hb dX10_word_106 (by decide) ?_
                          refine lv_goto (tgt := 111) hx hb dX10_word_107 (by decide) ?_
                          refine lv_istore (lv' := [(4, .int 1), (5, .int ic), (3, .ref (sa (5 + k9))), (2, .int kw), (1, .int en), (0, .ref h0)]) hx hb dX10_word_111 hl (by decide) rfl (fun ls hl => ?_)
                          refine lv_iinc (v := (ic + 1)) (lv' := [(5, .int (ic + 1)), (4, .int 1), (3, .ref (sa (5 + k9))), (2, .int kw), (1, .int en), (0, .ref h0)]) hx hb dX10_word_113 hl (k := 1) rfl rfl (by decide) rfl (fun ls hl => ?_)
                          refine lv_goto (tgt := 71) hx hb dX10_word_116 (by decide) ?_
                          exact ih (1 : Int32) (ic + 1) _ _ _ (hc8 (by rw [← hzc, ← ez_23]; exact c_26.symm))  hP hD hS (lv_sub hl [1, 0, 2, 3, 4, 5] rfl)
                exact lp 7 (1 : Int32) (0 : Int32) _ _ _ (hst.1 c_8)  hP hD hS (lv_sub hl [1, 0, 2, 3, 4, 5] rfl)
        exact lpB 20 (0 : Int32) _ _ _ (⟨0, nI_0.symm, by omega, by omega, fun x9 hx9 => absurd hx9 (by omega)⟩)  hP hD hS (lv_sub hl [0, 1, 2] rfl)
      · have nc_4 := nle_i c_4
        obtain ⟨p1, hp1, hp2, hp3, hp4, hp5⟩ := hmA
        have hp6 : p1 < ln := pl_lt hp1 hL.1 (by omega) (by omega) c_4
        refine lv_aload_n hx hb dX10_word_17 rfl (lv_at hl 1 rfl) ?_
        refine va_get (D := (dC, dI)) (ci := 10) (v := .ref (b 19)) (C := RX10) (T := TX10) (N := 51) hx hb hts inw_X10_word_10 hown hK hP 0 rfl rfl 19 (by decide) (hts (.fieldLink RX10 53 "VatHouseModel" "tape" "[I") (List.mem_of_getElem? (i := 3) (by exact rfl))) (fun _ h9 => h9) rfl dX10_word_18 ?_
        refine lv_iload_n hx hb dX10_word_21 rfl (lv_at hl 0 rfl) ?_
        refine va_iald hx hb hK hP 15 14 rfl rfl (by rw [hp1]; exact vp_in_nI (by have := hL.2; omega) (by decide)) dX10_word_22 ?_
        refine lv_topi (fun z_27 ez_27 => ?_)
        have ez_27 : z_27 = (a 19) en.toNatClampNeg := ez_27
        have hzt := ld_at ez_27 hp1 (by omega)
        obtain ⟨zl_28, hzl_29, Ml_30⟩ := pu_isLetter l dC dI sa z_27
        refine pu_S ⟨hx, hb, hml, hown, hts⟩ (Ml_30 _) (va_cwS 1 hts gX10_word_X10_isLetter rfl rfl rfl (by decide +kernel) ⟨Nat.le_of_ble_eq_true rfl, Nat.le_of_ble_eq_true rfl⟩) hP hK hS hA hev rfl hl.1 rfl (Nat.le_of_ble_eq_true rfl) dX10_word_23 ⟨Nat.le_of_ble_eq_true rfl, Nat.le_of_ble_eq_true rfl⟩ (fun H locs hP hS => ?_)
        refine W.eq (g2 := F0 m 26 ls [.int zl_28]) rfl ?_
        refine lv_if_eq (tgt := 35) hx hb dX10_word_26 (by decide) (fun c_31 => ?_) (fun c_31 => ?_)
        · have nc_31 := eq_i c_31
          have lc_31 : (0 : Int32).toInt = 0 := by decide
          have hE : p1 = le_ (a 19) ln sq.1 := by rw [← hp5]; exact (re_stop (Q := fun x => isL ((a 19) x)) (Or.inr (by show isL ((a 19) p1) = false; rw [← hzt]; exact zb0 hzl_29 c_31))).symm
          refine lv_iconst (v := 0) hx hb dX10_word_35 (by decide) ?_
          refine lv_istore_n (lv' := [(2, .int 0), (1, .int en), (0, .ref h0)]) hx hb dX10_word_36 rfl hl (by decide) rfl (fun ls hl => ?_)
          have lpB : ∀ (nB : Nat) (kw : Int32) (H : Heap) (locs : List Loc) (ls : Array Slot), (∃ k9 : Nat, kw = nI k9 ∧ k9 ≤ 18 + 1 ∧ 18 + 1 < k9 + nB ∧ ∀ x : Nat, x < k9 → ¬ mW (a 19) sq.1 (le_ (a 19) ln sq.1 - sq.1) x) → va_P (dC, dI) vwCl (mw g h0 b (va_up i 22 x22_1) a) H → va_D (va_A (mw g h0 b i a) s.heap.size) (mw g h0 b (va_up i 22 x22_1) a) → va_S (va_A (mw g h0 b i a) s.heap.size) s.heap H locs → lv_has ls 6 [(2, .int kw), (1, .int en), (0, .ref h0)] → W p l e rm_X10_word s m [.ref h0].toArray below meth c H locs 0 0 (MQ below (Qg (fun (r : Option Value) (x22 : Int32) => (∃ z : Int32, r = some (.int z) ∧ (z = cm (Kp (a 19) ln sq.1))) ∧ (x22 = nI sq.1)) (fun u t => QW dC dI (va_A (mw g h0 b i a) s.heap.size) ((fun (x22 : Int32) => mw g h0 b (va_up i 22 x22) a) u) [] t) (va_A (mw g h0 b i a) s.heap.size)) [.ref h0].toArray s 0 0 (va_A (mw g h0 b i a) s.heap.size)) (F0 m 37 ls []) := by
            intro nB
            induction nB with
            | zero => intro kw H locs ls hmB  hP hD hS hl; exact absurd hmB (by rintro ⟨k9, -, h1, h2, -⟩; omega)
            | succ nB ihB =>
              intro kw H locs ls hmB  hP hD hS hl
              refine lv_iload_n hx hb dX10_word_37 rfl (lv_at hl 0 rfl) ?_
              refine lv_bipush (v := 18) hx hb dX10_word_38 (by decide) ?_
              refine lv_icmp_gt (tgt := 132) hx hb dX10_word_40 (by decide) (fun c_32 => ?_) (fun c_32 => ?_)
              · have nc_32 := lt_i c_32
                have lc_32 : (18 : Int32).toInt = 18 := by decide
                obtain ⟨k9, hk1, hk2, hk3, hk4⟩ := hmB
                have hk19 : k9 = 19 := by have h9 : nI 18 < kw := c_32; rw [hk1, nI_ltI (by omega) (by omega)] at h9; omega
                refine lv_iconst (v := (-1)) hx hb dX10_word_132 (by decide) ?_
                exact M_i hx hb hr hlocks (x22_1) hP hD hK hS ⟨⟨_, rfl, wn_all (fun x9 hx9 => hk4 x9 (by omega))⟩, hw_2⟩ (Nat.le_of_ble_eq_true rfl) (Nat.le_of_ble_eq_true rfl) dX10_word_133
              · have nc_32 := nlt_i c_32
                have lc_32 : (18 : Int32).toInt = 18 := by decide
                obtain ⟨k9, hk1, hk2, hk3, hk4⟩ := hmB
                have hk18 : k9 ≤ 18 := by have h9 : ¬ nI 18 < kw := c_32; rw [hk1, nI_ltI (by omega) (by omega)] at h9; omega
                refine lv_iload_n hx hb dX10_word_43 rfl (lv_at hl 0 rfl) ?_
                refine pu_S (v := some (.ref (sa (5 + k9)))) ⟨hx, hb, hml, hown, hts⟩ (pu_nameOf l dC dI sa k9 hk18 kw hk1 _) (va_cwS 1 hts gX10_word_X10_nameOf rfl rfl rfl (by decide +kernel) ⟨Nat.le_of_ble_eq_true rfl, Nat.le_of_ble_eq_true rfl⟩) hP hK hS hA hev rfl hl.1 rfl (Nat.le_of_ble_eq_true rfl) dX10_word_44 ⟨Nat.le_of_ble_eq_true rfl, Nat.le_of_ble_eq_true rfl⟩ (fun H locs hP hS => ?_)
                refine W.eq (g2 := F0 m 47 ls [.ref (sa (5 + k9))]) rfl ?_
                refine lv_astore_n (lv' := [(3, .ref (sa (5 + k9))), (2, .int kw), (1, .int en), (0, .ref h0)]) hx hb dX10_word_47 rfl hl (by decide) rfl (fun ls hl => ?_)
                refine lv_aload_n hx hb dX10_word_48 rfl (lv_at hl 0 rfl) ?_
                refine pu_V (i := k9) (v := some (.int (nI (lenS.getD k9 0)))) ⟨hx, hb, hml, hown, hts⟩ (pu_length l dC dI sa k9 _ (by omega)) (cwV 0 hts gX10_word_J0_length_8abf5 rfl rfl rfl (by decide +kernel) ⟨Nat.le_of_ble_eq_true rfl, Nat.le_of_ble_eq_true rfl⟩) hP hK hS hA hev (by omega) rfl hl.1 rfl (Nat.le_of_ble_eq_true rfl) dX10_word_49 ⟨Nat.le_of_ble_eq_true rfl, Nat.le_of_ble_eq_true rfl⟩ (fun H locs hP hS => ?_)
                refine W.eq (g2 := F0 m 52 ls [.int (nI (lenS.getD k9 0))]) rfl ?_
                refine lv_topi (fun z_33 ez_33 => ?_)
                refine lv_iload_n hx hb dX10_word_52 rfl (lv_at hl 2 rfl) ?_
                refine lv_aload_n hx hb dX10_word_53 rfl (lv_at hl 3 rfl) ?_
                refine va_get (D := (dC, dI)) (ci := 10) (v := .int x22_1) (C := RX10) (T := TX10) (N := 51) hx hb hts inw_X10_word_10 hown hK hP 0 rfl rfl 22 (by decide) (hts (.fieldLink RX10 168 "VatHouseModel" "at" "I") (List.mem_of_getElem? (i := 1) (by exact rfl))) (fun _ h9 => h9) rfl dX10_word_54 ?_
                refine lv_isub hx hb dX10_word_57 ?_
                refine lv_topi (fun z_34 ez_34 => ?_)
                have hst := WCI.st (t := (a 19)) (q := sq.1) (len := le_ (a 19) ln sq.1 - sq.1) (z2 := z_34) hk18 ez_33 (by rw [ez_34, hp1, hw_2, hE, nI_sub (by omega)]) (by have := hL.2; omega)
                refine lv_icmp_ne (tgt := 65) hx hb dX10_word_58 (by decide) (fun c_35 => ?_) (fun c_35 => ?_)
                · have nc_35 := ne_i c_35
                  refine lv_iconst (v := 0) hx hb dX10_word_65 (by decide) ?_
                  refine lv_istore (lv' := [(4, .int 0), (3, .ref (sa (5 + k9))), (2, .int kw), (1, .int en), (0, .ref h0)]) hx hb dX10_word_66 hl (by decide) rfl (fun ls hl => ?_)
                  refine lv_iconst (v := 0) hx hb dX10_word_68 (by decide) ?_
                  refine lv_istore (lv' := [(5, .int 0), (4, .int 0), (3, .ref (sa (5 + k9))), (2, .int kw), (1, .int en), (0, .ref h0)]) hx hb dX10_word_69 hl (by decide) rfl (fun ls hl => ?_)
                  have lp : ∀ (n : Nat) (iw : Int32) (ic : Int32) (H : Heap) (locs : List Loc) (ls : Array Slot), (WCI (a 19) sq.1 (le_ (a 19) ln sq.1 - sq.1) k9 n iw ic) → va_P (dC, dI) vwCl (mw g h0 b (va_up i 22 x22_1) a) H → va_D (va_A (mw g h0 b i a) s.heap.size) (mw g h0 b (va_up i 22 x22_1) a) → va_S (va_A (mw g h0 b i a) s.heap.size) s.heap H locs → lv_has ls 6 [(4, .int iw), (5, .int ic), (3, .ref (sa (5 + k9))), (2, .int kw), (1, .int en), (0, .ref h0)] → W p l e rm_X10_word s m [.ref h0].toArray below meth c H locs 0 0 (MQ below (Qg (fun (r : Option Value) (x22 : Int32) => (∃ z : Int32, r = some (.int z) ∧ (z = cm (Kp (a 19) ln sq.1))) ∧ (x22 = nI sq.1)) (fun u t => QW dC dI (va_A (mw g h0 b i a) s.heap.size) ((fun (x22 : Int32) => mw g h0 b (va_up i 22 x22) a) u) [] t) (va_A (mw g h0 b i a) s.heap.size)) [.ref h0].toArray s 0 0 (va_A (mw g h0 b i a) s.heap.size)) (F0 m 71 ls []) := by
                    intro n
                    induction n with
                    | zero => intro iw ic H locs ls hm  hP hD hS hl; exact absurd hm (by rintro ⟨c9, -, h1, h2, -⟩; omega)
                    | succ n ih =>
                      intro iw ic H locs ls hm  hP hD hS hl
                      refine lv_iload hx hb dX10_word_71 (lv_at hl 1 rfl) ?_
                      refine lv_aload_n hx hb dX10_word_73 rfl (lv_at hl 2 rfl) ?_
                      refine pu_V (i := k9) (v := some (.int (nI (lenS.getD k9 0)))) ⟨hx, hb, hml, hown, hts⟩ (pu_length l dC dI sa k9 _ (by omega)) (cwV 0 hts gX10_word_J0_length_8abf5 rfl rfl rfl (by decide +kernel) ⟨Nat.le_of_ble_eq_true rfl, Nat.le_of_ble_eq_true rfl⟩) hP hK hS hA hev (by omega) rfl hl.1 rfl (Nat.le_of_ble_eq_true rfl) dX10_word_74 ⟨Nat.le_of_ble_eq_true rfl, Nat.le_of_ble_eq_true rfl⟩ (fun H locs hP hS => ?_)
                      refine W.eq (g2 := F0 m 77 ls [.int (nI (lenS.getD k9 0)), .int ic]) rfl ?_
                      refine lv_topi (fun z_36 ez_36 => ?_)
                      refine lv_icmp_ge (tgt := 119) hx hb dX10_word_77 (by decide) (fun c_37 => ?_) (fun c_37 => ?_)
                      · have nc_37 := le_i c_37
                        refine lv_iload hx hb dX10_word_119 (lv_at hl 0 rfl) ?_
                        refine lv_if_eq (tgt := 126) hx hb dX10_word_121 (by decide) (fun c_38 => ?_) (fun c_38 => ?_)
                        · have nc_38 := eq_i c_38
                          have lc_38 : (0 : Int32).toInt = 0 := by decide
                          have hno : ¬ mW (a 19) sq.1 (le_ (a 19) ln sq.1 - sq.1) k9 := by obtain ⟨c9, -, -, -, h9, -⟩ := hm; exact h9 c_38
                          refine lv_iinc (v := (kw + 1)) (lv' := [(2, .int (kw + 1)), (4, .int iw), (5, .int ic), (3, .ref (sa (5 + k9))), (1, .int en), (0, .ref h0)]) hx hb dX10_word_126 hl (k := 3) rfl rfl (by decide) rfl (fun ls hl => ?_)
                          refine lv_goto (tgt := 37) hx hb dX10_word_129 (by decide) ?_
                          exact ihB (kw + 1) _ _ _ (⟨k9 + 1, by rw [hk1]; exact nI_1 k9, by omega, by omega, fun x9 hx9 => by rcases Nat.lt_or_ge x9 k9 with h9 | h9; exact hk4 x9 h9; obtain rfl : x9 = k9 := (by omega); exact hno⟩)  hP hD hS (lv_sub hl [0, 4, 5] rfl)
                        · have nc_38 := ne_i c_38
                          have lc_38 : (0 : Int32).toInt = 0 := by decide
                          refine lv_iload_n hx hb dX10_word_124 rfl (lv_at hl 3 rfl) ?_
                          exact M_i hx hb hr hlocks (x22_1) hP hD hK hS ⟨⟨_, rfl, by rw [hk1]; exact wn_one hk18 (hm.end hk18 ez_36 c_37 c_38)⟩, hw_2⟩ (Nat.le_of_ble_eq_true rfl) (Nat.le_of_ble_eq_true rfl) dX10_word_125
                      · have nc_37 := nle_i c_37
                        refine lv_iload hx hb dX10_word_80 (lv_at hl 0 rfl) ?_
                        refine lv_if_eq (tgt := 119) hx hb dX10_word_82 (by decide) (fun c_39 => ?_) (fun c_39 => ?_)
                        · have nc_39 := eq_i c_39
                          have lc_39 : (0 : Int32).toInt = 0 := by decide
                          refine lv_iload hx hb dX10_word_119 (lv_at hl 0 rfl) ?_
                          refine lv_if_eq (tgt := 126) hx hb dX10_word_121 (by decide) (fun c_40 => ?_) (fun c_40 => ?_)
                          · have nc_40 := eq_i c_40
                            have lc_40 : (0 : Int32).toInt = 0 := by decide
                            have hno : ¬ mW (a 19) sq.1 (le_ (a 19) ln sq.1 - sq.1) k9 := by obtain ⟨c9, -, -, -, h9, -⟩ := hm; exact h9 c_40
                            refine lv_iinc (v := (kw + 1)) (lv' := [(2, .int (kw + 1)), (4, .int iw), (5, .int ic), (3, .ref (sa (5 + k9))), (1, .int en), (0, .ref h0)]) hx hb dX10_word_126 hl (k := 3) rfl rfl (by decide) rfl (fun ls hl => ?_)
                            refine lv_goto (tgt := 37) hx hb dX10_word_129 (by decide) ?_
                            exact ihB (kw + 1) _ _ _ (⟨k9 + 1, by rw [hk1]; exact nI_1 k9, by omega, by omega, fun x9 hx9 => by rcases Nat.lt_or_ge x9 k9 with h9 | h9; exact hk4 x9 h9; obtain rfl : x9 = k9 := (by omega); exact hno⟩)  hP hD hS (lv_sub hl [0, 4, 5] rfl)
                          · have nc_40 := ne_i c_40
                            have lc_40 : (0 : Int32).toInt = 0 := by decide
                            exact absurd c_39 c_40
                        · have nc_39 := ne_i c_39
                          have lc_39 : (0 : Int32).toInt = 0 := by decide
                          obtain ⟨c9, hc1, hc6, hc7, hc8, hc9⟩ := hm.nx hk18 ez_36 c_37 c_39
                          refine lv_aload_n hx hb dX10_word_85 rfl (lv_at hl 2 rfl) ?_
                          refine lv_iload hx hb dX10_word_86 (lv_at hl 1 rfl) ?_
                          refine pu_V (i := k9) (v := some (.int (chS k9 c9))) ⟨hx, hb, hml, hown, hts⟩ (pu_charAtX l dC dI sa k9 c9 ic _ hc1 (by omega) hc6) (cwV 1 hts gX10_word_J0_charAt_5068e rfl rfl rfl (by decide +kernel) ⟨Nat.le_of_ble_eq_true rfl, Nat.le_of_ble_eq_true rfl⟩) hP hK hS hA hev (by omega) rfl hl.1 rfl (Nat.le_of_ble_eq_true rfl) dX10_word_88 ⟨Nat.le_of_ble_eq_true rfl, Nat.le_of_ble_eq_true rfl⟩ (fun H locs hP hS => ?_)
                          refine W.eq (g2 := F0 m 91 ls [.int (chS k9 c9)]) rfl ?_
                          refine lv_topi (fun z_41 ez_41 => ?_)
                          refine lv_aload_n hx hb dX10_word_91 rfl (lv_at hl 5 rfl) ?_
                          refine va_get (D := (dC, dI)) (ci := 10) (v := .ref (b 19)) (C := RX10) (T := TX10) (N := 51) hx hb hts inw_X10_word_10 hown hK hP 0 rfl rfl 19 (by decide) (hts (.fieldLink RX10 53 "VatHouseModel" "tape" "[I") (List.mem_of_getElem? (i := 3) (by exact rfl))) (fun _ h9 => h9) rfl dX10_word_92 ?_
                          refine lv_aload_n hx hb dX10_word_95 rfl (lv_at hl 5 rfl) ?_
                          refine va_get (D := (dC, dI)) (ci := 10) (v := .int x22_1) (C := RX10) (T := TX10) (N := 51) hx hb hts inw_X10_word_10 hown hK hP 0 rfl rfl 22 (by decide) (hts (.fieldLink RX10 168 "VatHouseModel" "at" "I") (List.mem_of_getElem? (i := 1) (by exact rfl))) (fun _ h9 => h9) rfl dX10_word_96 ?_
                          refine lv_iload hx hb dX10_word_99 (lv_at hl 1 rfl) ?_
                          refine lv_iadd hx hb dX10_word_101 ?_
                          refine lv_topi (fun z_42 ez_42 => ?_)
                          refine va_iald hx hb hK hP 15 14 rfl rfl (by rw [ez_42, hw_2, hc1, nI_add]; exact vp_in_nI (by have := hL.2; omega) (by decide)) dX10_word_102 ?_
                          refine lv_topi (fun z_43 ez_43 => ?_)
                          have ez_43 : z_43 = (a 19) z_42.toNatClampNeg := ez_43
                          have hzc : z_43 = (a 19) (sq.1 + c9) := ld_at ez_43 (by rw [ez_42, hw_2, hc1, nI_add]) (by have := hL.2; omega)
                          refine lv_icmp_ne (tgt := 110) hx hb dX10_word_103 (by decide) (fun c_44 => ?_) (fun c_44 => ?_)
                          · have nc_44 := ne_i c_44
                            refine lv_iconst (v := 0) hx hb dX10_word_110 (by decide) ?_
                            refine lv_istore (lv' := [(4, .int 0), (5, .int ic), (3, .ref (sa (5 + k9))), (2, .int kw), (1, .int en), (0, .ref h0)]) hx hb dX10_word_111 hl (by decide) rfl (fun ls hl => ?_)
                            refine lv_iinc (v := (ic + 1)) (lv' := [(5, .int (ic + 1)), (4, .int 0), (3, .ref (sa (5 + k9))), (2, .int kw), (1, .int en), (0, .ref h0)]) hx hb dX10_word_113 hl (k := 1) rfl rfl (by decide) rfl (fun ls hl => ?_)
                            refine lv_goto (tgt := 71) hx hb dX10_word_116 (by decide) ?_
                            exact ih (0 : Int32) (ic + 1) _ _ _ (hc9 (by rw [← hzc, ← ez_41]; exact fun h9 => c_44 h9.symm))  hP hD hS (lv_sub hl [1, 0, 2, 3, 4, 5] rfl)
                          · have nc_44 := eq_i c_44
                            refine lv_iconst (v := 1) hx hb dX10_word_106 (by decide) ?_
                            refine lv_goto (tgt := 111) hx hb dX10_word_107 (by decide) ?_
                            refine lv_istore (lv' := [(4, .int 1), (5, .int ic), (3, .ref (sa (5 + k9))), (2, .int kw), (1, .int en), (0, .ref h0)]) hx hb dX10_word_111 hl (by decide) rfl (fun ls hl => ?_)
                            refine lv_iinc (v := (ic + 1)) (lv' := [(5, .int (ic + 1)), (4, .int 1), (3, .ref (sa (5 + k9))), (2, .int kw), (1, .int en), (0, .ref h0)]) hx hb dX10_word_113 hl (k := 1) rfl rfl (by decide) rfl (fun ls hl => ?_)
                            refine lv_goto (tgt := 71) hx hb dX10_word_116 (by decide) ?_
                            exact ih (1 : Int32) (ic + 1) _ _ _ (hc8 (by rw [← hzc, ← ez_41]; exact c_44.symm))  hP hD hS (lv_sub hl [1, 0, 2, 3, 4, 5] rfl)
                  exact lp 7 (0 : Int32) (0 : Int32) _ _ _ (hst.2 c_35)  hP hD hS (lv_sub hl [1, 0, 2, 3, 4, 5] rfl)
                · have nc_35 := eq_i c_35
                  refine lv_iconst (v := 1) hx hb dX10_word_61 (by decide) ?_
                  refine lv_goto (tgt := 66) hx hb dX10_word_62 (by decide) ?_
                  refine lv_istore (lv' := [(4, .int 1), (3, .ref (sa (5 + k9))), (2, .int kw), (1, .int en), (0, .ref h0)]) hx hb dX10_word_66 hl (by decide) rfl (fun ls hl => ?_)
                  refine lv_iconst (v := 0) hx hb dX10_word_68 (by decide) ?_
                  refine lv_istore (lv' := [(5, .int 0), (4, .int 1), (3, .ref (sa (5 + k9))), (2, .int kw), (1, .int en), (0, .ref h0)]) hx hb dX10_word_69 hl (by decide) rfl (fun ls hl => ?_)
                  have lp : ∀ (n : Nat) (iw : Int32) (ic : Int32) (H : Heap) (locs : List Loc) (ls : Array Slot), (WCI (a 19) sq.1 (le_ (a 19) ln sq.1 - sq.1) k9 n iw ic) → va_P (dC, dI) vwCl (mw g h0 b (va_up i 22 x22_1) a) H → va_D (va_A (mw g h0 b i a) s.heap.size) (mw g h0 b (va_up i 22 x22_1) a) → va_S (va_A (mw g h0 b i a) s.heap.size) s.heap H locs → lv_has ls 6 [(4, .int iw), (5, .int ic), (3, .ref (sa (5 + k9))), (2, .int kw), (1, .int en), (0, .ref h0)] → W p l e rm_X10_word s m [.ref h0].toArray below meth c H locs 0 0 (MQ below (Qg (fun (r : Option Value) (x22 : Int32) => (∃ z : Int32, r = some (.int z) ∧ (z = cm (Kp (a 19) ln sq.1))) ∧ (x22 = nI sq.1)) (fun u t => QW dC dI (va_A (mw g h0 b i a) s.heap.size) ((fun (x22 : Int32) => mw g h0 b (va_up i 22 x22) a) u) [] t) (va_A (mw g h0 b i a) s.heap.size)) [.ref h0].toArray s 0 0 (va_A (mw g h0 b i a) s.heap.size)) (F0 m 71 ls []) := by
                    intro n
                    induction n with
                    | zero => intro iw ic H locs ls hm  hP hD hS hl; exact absurd hm (by rintro ⟨c9, -, h1, h2, -⟩; omega)
                    | succ n ih =>
                      intro iw ic H locs ls hm  hP hD hS hl
                      refine lv_iload hx hb dX10_word_71 (lv_at hl 1 rfl) ?_
                      refine lv_aload_n hx hb dX10_word_73 rfl (lv_at hl 2 rfl) ?_
                      refine pu_V (i := k9) (v := some (.int (nI (lenS.getD k9 0)))) ⟨hx, hb, hml, hown, hts⟩ (pu_length l dC dI sa k9 _ (by omega)) (cwV 0 hts gX10_word_J0_length_8abf5 rfl rfl rfl (by decide +kernel) ⟨Nat.le_of_ble_eq_true rfl, Nat.le_of_ble_eq_true rfl⟩) hP hK hS hA hev (by omega) rfl hl.1 rfl (Nat.le_of_ble_eq_true rfl) dX10_word_74 ⟨Nat.le_of_ble_eq_true rfl, Nat.le_of_ble_eq_true rfl⟩ (fun H locs hP hS => ?_)
                      refine W.eq (g2 := F0 m 77 ls [.int (nI (lenS.getD k9 0)), .int ic]) rfl ?_
                      refine lv_topi (fun z_45 ez_45 => ?_)
                      refine lv_icmp_ge (tgt := 119) hx hb dX10_word_77 (by decide) (fun c_46 => ?_) (fun c_46 => ?_)
                      · have nc_46 := le_i c_46
                        refine lv_iload hx hb dX10_word_119 (lv_at hl 0 rfl) ?_
                        refine lv_if_eq (tgt := 126) hx hb dX10_word_121 (by decide) (fun c_47 => ?_) (fun c_47 => ?_)
                        · have nc_47 := eq_i c_47
                          have lc_47 : (0 : Int32).toInt = 0 := by decide
                          have hno : ¬ mW (a 19) sq.1 (le_ (a 19) ln sq.1 - sq.1) k9 := by obtain ⟨c9, -, -, -, h9, -⟩ := hm; exact h9 c_47
                          refine lv_iinc (v := (kw + 1)) (lv' := [(2, .int (kw + 1)), (4, .int iw), (5, .int ic), (3, .ref (sa (5 + k9))), (1, .int en), (0, .ref h0)]) hx hb dX10_word_126 hl (k := 3) rfl rfl (by decide) rfl (fun ls hl => ?_)
                          refine lv_goto (tgt := 37) hx hb dX10_word_129 (by decide) ?_
                          exact ihB (kw + 1) _ _ _ (⟨k9 + 1, by rw [hk1]; exact nI_1 k9, by omega, by omega, fun x9 hx9 => by rcases Nat.lt_or_ge x9 k9 with h9 | h9; exact hk4 x9 h9; obtain rfl : x9 = k9 := (by omega); exact hno⟩)  hP hD hS (lv_sub hl [0, 4, 5] rfl)
                        · have nc_47 := ne_i c_47
                          have lc_47 : (0 : Int32).toInt = 0 := by decide
                          refine lv_iload_n hx hb dX10_word_124 rfl (lv_at hl 3 rfl) ?_
                          exact M_i hx hb hr hlocks (x22_1) hP hD hK hS ⟨⟨_, rfl, by rw [hk1]; exact wn_one hk18 (hm.end hk18 ez_45 c_46 c_47)⟩, hw_2⟩ (Nat.le_of_ble_eq_true rfl) (Nat.le_of_ble_eq_true rfl) dX10_word_125
                      · have nc_46 := nle_i c_46
                        refine lv_iload hx hb dX10_word_80 (lv_at hl 0 rfl) ?_
                        refine lv_if_eq (tgt := 119) hx hb dX10_word_82 (by decide) (fun c_48 => ?_) (fun c_48 => ?_)
                        · have nc_48 := eq_i c_48
                          have lc_48 : (0 : Int32).toInt = 0 := by decide
                          refine lv_iload hx hb dX10_word_119 (lv_at hl 0 rfl) ?_
                          refine lv_if_eq (tgt := 126) hx hb dX10_word_121 (by decide) (fun c_49 => ?_) (fun c_49 => ?_)
                          · have nc_49 := eq_i c_49
                            have lc_49 : (0 : Int32).toInt = 0 := by decide
                            have hno : ¬ mW (a 19) sq.1 (le_ (a 19) ln sq.1 - sq.1) k9 := by obtain ⟨c9, -, -, -, h9, -⟩ := hm; exact h9 c_49
                            refine lv_iinc (v := (kw + 1)) (lv' := [(2, .int (kw + 1)), (4, .int iw), (5, .int ic), (3, .ref (sa (5 + k9))), (1, .int en), (0, .ref h0)]) hx hb dX10_word_126 hl (k := 3) rfl rfl (by decide) rfl (fun ls hl => ?_)
                            refine lv_goto (tgt := 37) hx hb dX10_word_129 (by decide) ?_
                            exact ihB (kw + 1) _ _ _ (⟨k9 + 1, by rw [hk1]; exact nI_1 k9, by omega, by omega, fun x9 hx9 => by rcases Nat.lt_or_ge x9 k9 with h9 | h9; exact hk4 x9 h9; obtain rfl : x9 = k9 := (by omega); exact hno⟩)  hP hD hS (lv_sub hl [0, 4, 5] rfl)
                          · have nc_49 := ne_i c_49
                            have lc_49 : (0 : Int32).toInt = 0 := by decide
                            exact absurd c_48 c_49
                        · have nc_48 := ne_i c_48
                          have lc_48 : (0 : Int32).toInt = 0 := by decide
                          obtain ⟨c9, hc1, hc6, hc7, hc8, hc9⟩ := hm.nx hk18 ez_45 c_46 c_48
                          refine lv_aload_n hx hb dX10_word_85 rfl (lv_at hl 2 rfl) ?_
                          refine lv_iload hx hb dX10_word_86 (lv_at hl 1 rfl) ?_
                          refine pu_V (i := k9) (v := some (.int (chS k9 c9))) ⟨hx, hb, hml, hown, hts⟩ (pu_charAtX l dC dI sa k9 c9 ic _ hc1 (by omega) hc6) (cwV 1 hts gX10_word_J0_charAt_5068e rfl rfl rfl (by decide +kernel) ⟨Nat.le_of_ble_eq_true rfl, Nat.le_of_ble_eq_true rfl⟩) hP hK hS hA hev (by omega) rfl hl.1 rfl (Nat.le_of_ble_eq_true rfl) dX10_word_88 ⟨Nat.le_of_ble_eq_true rfl, Nat.le_of_ble_eq_true rfl⟩ (fun H locs hP hS => ?_)
                          refine W.eq (g2 := F0 m 91 ls [.int (chS k9 c9)]) rfl ?_
                          refine lv_topi (fun z_50 ez_50 => ?_)
                          refine lv_aload_n hx hb dX10_word_91 rfl (lv_at hl 5 rfl) ?_
                          refine va_get (D := (dC, dI)) (ci := 10) (v := .ref (b 19)) (C := RX10) (T := TX10) (N := 51) hx hb hts inw_X10_word_10 hown hK hP 0 rfl rfl 19 (by decide) (hts (.fieldLink RX10 53 "VatHouseModel" "tape" "[I") (List.mem_of_getElem? (i := 3) (by exact rfl))) (fun _ h9 => h9) rfl dX10_word_92 ?_
                          refine lv_aload_n hx hb dX10_word_95 rfl (lv_at hl 5 rfl) ?_
                          refine va_get (D := (dC, dI)) (ci := 10) (v := .int x22_1) (C := RX10) (T := TX10) (N := 51) hx hb hts inw_X10_word_10 hown hK hP 0 rfl rfl 22 (by decide) (hts (.fieldLink RX10 168 "VatHouseModel" "at" "I") (List.mem_of_getElem? (i := 1) (by exact rfl))) (fun _ h9 => h9) rfl dX10_word_96 ?_
                          refine lv_iload hx hb dX10_word_99 (lv_at hl 1 rfl) ?_
                          refine lv_iadd hx hb dX10_word_101 ?_
                          refine lv_topi (fun z_51 ez_51 => ?_)
                          refine va_iald hx hb hK hP 15 14 rfl rfl (by rw [ez_51, hw_2, hc1, nI_add]; exact vp_in_nI (by have := hL.2; omega) (by decide)) dX10_word_102 ?_
                          refine lv_topi (fun z_52 ez_52 => ?_)
                          have ez_52 : z_52 = (a 19) z_51.toNatClampNeg := ez_52
                          have hzc : z_52 = (a 19) (sq.1 + c9) := ld_at ez_52 (by rw [ez_51, hw_2, hc1, nI_add]) (by have := hL.2; omega)
                          refine lv_icmp_ne (tgt := 110) hx hb dX10_word_103 (by decide) (fun c_53 => ?_) (fun c_53 => ?_)
                          · have nc_53 := ne_i c_53
                            refine lv_iconst (v := 0) hx hb dX10_word_110 (by decide) ?_
                            refine lv_istore (lv' := [(4, .int 0), (5, .int ic), (3, .ref (sa (5 + k9))), (2, .int kw), (1, .int en), (0, .ref h0)]) hx hb dX10_word_111 hl (by decide) rfl (fun ls hl => ?_)
                            refine lv_iinc (v := (ic + 1)) (lv' := [(5, .int (ic + 1)), (4, .int 0), (3, .ref (sa (5 + k9))), (2, .int kw), (1, .int en), (0, .ref h0)]) hx hb dX10_word_113 hl (k := 1) rfl rfl (by decide) rfl (fun ls hl => ?_)
                            refine lv_goto (tgt := 71) hx hb dX10_word_116 (by decide) ?_
                            exact ih (0 : Int32) (ic + 1) _ _ _ (hc9 (by rw [← hzc, ← ez_50]; exact fun h9 => c_53 h9.symm))  hP hD hS (lv_sub hl [1, 0, 2, 3, 4, 5] rfl)
                          · have nc_53 := eq_i c_53
                            refine lv_iconst (v := 1) hx hb dX10_word_106 (by decide) ?_
                            refine lv_goto (tgt := 111) hx hb dX10_word_107 (by decide) ?_
                            refine lv_istore (lv' := [(4, .int 1), (5, .int ic), (3, .ref (sa (5 + k9))), (2, .int kw), (1, .int en), (0, .ref h0)]) hx hb dX10_word_111 hl (by decide) rfl (fun ls hl => ?_)
                            refine lv_iinc (v := (ic + 1)) (lv' := [(5, .int (ic + 1)), (4, .int 1), (3, .ref (sa (5 + k9))), (2, .int kw), (1, .int en), (0, .ref h0)]) hx hb dX10_word_113 hl (k := 1) rfl rfl (by decide) rfl (fun ls hl => ?_)
                            refine lv_goto (tgt := 71) hx hb dX10_word_116 (by decide) ?_
                            exact ih (1 : Int32) (ic + 1) _ _ _ (hc8 (by rw [← hzc, ← ez_50]; exact c_53.symm))  hP hD hS (lv_sub hl [1, 0, 2, 3, 4, 5] rfl)
                  exact lp 7 (1 : Int32) (0 : Int32) _ _ _ (hst.1 c_35)  hP hD hS (lv_sub hl [1, 0, 2, 3, 4, 5] rfl)
          exact lpB 20 (0 : Int32) _ _ _ (⟨0, nI_0.symm, by omega, by omega, fun x9 hx9 => absurd hx9 (by omega)⟩)  hP hD hS (lv_sub hl [0, 1, 2] rfl)
        · have nc_31 := ne_i c_31
          have lc_31 : (0 : Int32).toInt = 0 := by decide
          refine lv_iinc (v := (en + 1)) (lv' := [(1, .int (en + 1)), (0, .ref h0)]) hx hb dX10_word_29 hl (k := 0) rfl rfl (by decide) rfl (fun ls hl => ?_)
          refine lv_goto (tgt := 9) hx hb dX10_word_32 (by decide) ?_
          exact ihA (en + 1) _ _ _ (⟨p1 + 1, by rw [hp1]; exact nI_1 p1, by omega, by omega, by omega, by rw [← hp5]; exact (re_go (Q := fun x => isL ((a 19) x)) hp6 (by show isL ((a 19) p1) = true; rw [← hzt]; exact zb1 hzl_29 c_31)).symm⟩)  hP hD hS (lv_sub hl [0, 1] rfl)
  exact lpA (ln + 1) x22_1 _ _ _ (⟨sq.1, hw_2, Nat.le_refl _, hM.q.1, by omega, rfl⟩)  hP hD hS (lv_sub hl [0, 1] rfl)

noncomputable abbrev rm_X10_pass : Room := { frames := 2, cells := 0, slots := 0, locals := 60 }
theorem inw_X10_pass_10 : ∀ w ∈ wsX100, w ∈ wsX10_pass := fun _ h => List.mem_cons_of_mem _ (List.mem_append_right _ h)
set_option maxHeartbeats 1000000 in
set_option maxRecDepth 100000 in
theorem m_X10_pass (l : Launch) (dC : Nat → ClassId) (dI : Nat → Nat → Nat) (sa : Nat → Nat) (g : Nat → Nat) (h0 : Nat) (b : Nat → Nat) (ln : Nat) (sq : SG) (kq : Nat) (i : Nat → Int32) (a : Nat → Nat → Int32) (wd : Int32) (sz : Nat) (hq22 : (i 22) = nI sq.1) (hwk : wd = nI kq ∧ kq ≤ 18 ∧ cm (Kp (a 19) ln sq.1) = nI kq) : CT l dC dI sa yX10_pass wsX10_pass rm_X10_pass [.ref h0, .int wd] (mw g h0 b i a) (tyM g) sz (fun (r : Option Value) (x22 : Int32) => (r = none) ∧ (x22 = nI (nx (a 19) ln sq.1))) (fun (x22 : Int32) => mw g h0 b (va_up i 22 x22) a) (fun _ => []) 0 0 := by
  refine CT.start (cc := cX10_pass) (maxL := 2) (ret := none) (by decide) rfl (Nat.le_of_ble_eq_true rfl) ?_
  intro p e s m below meth c ls hst hP hK hD hev hS hl
  obtain ⟨hx, hb, hr, hml, hts, hown, hlocks, hin⟩ := hst
  have hown : s.vm.findClass RX10 = some m.cls := hown
  have hA : ∀ q : Nat, s.heap.size ≤ q → va_A (mw g h0 b i a) s.heap.size q := fun _ h => Or.inr h
  have hl : lv_has ls 2 [(0, .ref h0), (1, .int wd)] := hl
  refine lv_aload_n hx hb dX10_pass_0 rfl (lv_at hl 0 rfl) ?_
  refine lv_dup hx hb dX10_pass_1 rfl ?_
  refine va_get (D := (dC, dI)) (ci := 10) (v := .int (i 22)) (C := RX10) (T := TX10) (N := 51) hx hb hts inw_X10_pass_10 hown hK hP 0 rfl rfl 22 (by decide) (hts (.fieldLink RX10 168 "VatHouseModel" "at" "I") (List.mem_of_getElem? (i := 1) (by exact rfl))) (fun _ h9 => h9) rfl dX10_pass_2 ?_
  refine lv_iload_n hx hb dX10_pass_5 rfl (lv_at hl 1 rfl) ?_
  refine pu_S (v := some (.ref (sa (5 + kq)))) ⟨hx, hb, hml, hown, hts⟩ (pu_nameOf l dC dI sa kq hwk.2.1 wd hwk.1 _) (va_cwS 1 hts gX10_pass_X10_nameOf rfl rfl rfl (by decide +kernel) ⟨Nat.le_of_ble_eq_true rfl, Nat.le_of_ble_eq_true rfl⟩) hP hK hS hA hev rfl hl.1 rfl (Nat.le_of_ble_eq_true rfl) dX10_pass_6 ⟨Nat.le_of_ble_eq_true rfl, Nat.le_of_ble_eq_true rfl⟩ (fun H locs hP hS => ?_)
  refine W.eq (g2 := F0 m 9 ls [.ref (sa (5 + kq)), .int (i 22), .ref h0]) rfl ?_
  refine pu_V (i := kq) (v := some (.int (nI (lenS.getD kq 0)))) ⟨hx, hb, hml, hown, hts⟩ (pu_length l dC dI sa kq _ (by omega)) (cwV 0 hts gX10_pass_J0_length_8abf5 rfl rfl rfl (by decide +kernel) ⟨Nat.le_of_ble_eq_true rfl, Nat.le_of_ble_eq_true rfl⟩) hP hK hS hA hev (by omega) rfl hl.1 rfl (Nat.le_of_ble_eq_true rfl) dX10_pass_9 ⟨Nat.le_of_ble_eq_true rfl, Nat.le_of_ble_eq_true rfl⟩ (fun H locs hP hS => ?_)
  refine W.eq (g2 := F0 m 12 ls [.int (nI (lenS.getD kq 0)), .int (i 22), .ref h0]) rfl ?_
  refine lv_topi (fun z_1 ez_1 => ?_)
  refine lv_iadd hx hb dX10_pass_12 ?_
  refine lv_topi (fun z_2 ez_2 => ?_)
  refine va_put (D := (dC, dI)) (ci := 10) (v := .int z_2) (ty := .int) (C := RX10) (T := TX10) (N := 51) hx hb hts inw_X10_pass_10 tyX10 tyX10_ok nmX10 hown hK hP hD hS 0 rfl rfl 22 (by decide) (hts (.fieldLink RX10 168 "VatHouseModel" "at" "I") (List.mem_of_getElem? (i := 1) (by exact rfl))) (fun _ h9 => h9) rfl (tyX10_ok 22 (by decide)) rfl rfl (Nat.le_of_ble_eq_true rfl) dX10_pass_13 (fun H locs hP hD hS => ?_)
  have hP : va_P (dC, dI) vwCl (mw g h0 b (va_up i 22 z_2) a) _ := hP
  have hD : va_D _ (mw g h0 b (va_up i 22 z_2) a) := hD
  exact M_v hx hb hr hlocks (z_2) hP hD hK hS ⟨rfl, by rw [ez_2, ez_1, hq22, nI_add, (wd_at hwk.2.1 hwk.2.2).2]⟩ (Nat.le_of_ble_eq_true rfl) (Nat.le_of_ble_eq_true rfl) dX10_pass_16

theorem cm_13 {k : Int32} : cm k = 13 ↔ k = 13 := by
  have h := cm_i k
  rw [← Int32.toInt_inj, ← Int32.toInt_inj]
  have e : (13 : Int32).toInt = 13 := by decide
  omega
theorem cm_12 {k : Int32} : cm k = 12 ↔ k = 14 := by
  have h := cm_i k
  rw [← Int32.toInt_inj, ← Int32.toInt_inj]
  have e : (12 : Int32).toInt = 12 := by decide
  have e2 : (14 : Int32).toInt = 14 := by decide
  omega
theorem cw_eq {k cw wd : Int32} (h : (cw = 13 ∧ wd = 13) ∨ (cw = 14 ∧ wd = 12)) : cm k = wd ↔ k = cw := by
  rcases h with ⟨rfl, rfl⟩ | ⟨rfl, rfl⟩
  · exact cm_13
  · exact cm_12
/-- a word's number: small -/
theorem cm_k {k z : Int32} (h : z = cm k) (hn : ¬ z = -1) : ∃ kq : Nat, z = nI kq ∧ kq ≤ 18 ∧ cm k = nI kq := by
  have h2 := cm_i k
  rw [← Int32.toInt_inj, h] at hn
  have e : (-1 : Int32).toInt = -1 := by decide
  obtain ⟨kq, hk, e2⟩ := nI_of (x := cm k) (by rw [Int32.lt_iff_toInt_lt]; have : (0 : Int32).toInt = 0 := by decide
                                               omega)
  refine ⟨kq, h.trans e2, ?_, e2⟩
  have e3 : (cm k).toInt = (kq : Int) := by rw [e2]; exact nI_toInt hk
  omega

noncomputable abbrev rm_X10_needWord : Room := { frames := 5, cells := 0, slots := 0, locals := 166 }
theorem inw_X10_needWord_10 : ∀ w ∈ wsX100, w ∈ wsX10_needWord := fun _ h => List.mem_cons_of_mem _ (List.mem_append_right _ h)
set_option maxHeartbeats 1000000 in
set_option maxRecDepth 100000 in
theorem m_X10_needWord (l : Launch) (dC : Nat → ClassId) (dI : Nat → Nat → Nat) (sa : Nat → Nat) (g : Nat → Nat) (h0 : Nat) (b : Nat → Nat) (ln : Nat) (sq : SG) (cw : Int32) (i : Nat → Int32) (a : Nat → Nat → Int32) (wd : Int32) (sz : Nat) (hL : (i 21) = nI ln ∧ ln ≤ 1500) (hM : MI (a 19) ln sq (i 22) (i 23) (i 24)) (hcw : (cw = 13 ∧ wd = 13) ∨ (cw = 14 ∧ wd = 12)) : CT l dC dI sa yX10_needWord wsX10_needWord rm_X10_needWord [.ref h0, .int wd] (mw g h0 b i a) (tyM g) sz (fun (r : Option Value) (u : Int32 × Int32 × Int32) => match u with | (x22, x23, x24) => ((r = some (.int 0) ∧ (MO (gpa (Kp (a 19) ln) (nq (a 19) ln) cw sq) x23 x24)) ∨ (r = some (.int 1) ∧ (MI (a 19) ln (gpa (Kp (a 19) ln) (nq (a 19) ln) cw sq) x22 x23 x24))) ∧ (True)) (fun (u : Int32 × Int32 × Int32) => match u with | (x22, x23, x24) => mw g h0 b (va_up (va_up (va_up i 22 x22) 23 x23) 24 x24) a) (fun _ => []) 0 0 := by
  refine CT.start (cc := cX10_needWord) (maxL := 2) (ret := (some .boolean)) (by decide) rfl (Nat.le_of_ble_eq_true rfl) ?_
  intro p e s m below meth c ls hst hP hK hD hev hS hl
  obtain ⟨hx, hb, hr, hml, hts, hown, hlocks, hin⟩ := hst
  have hown : s.vm.findClass RX10 = some m.cls := hown
  have hA : ∀ q : Nat, s.heap.size ≤ q → va_A (mw g h0 b i a) s.heap.size q := fun _ h => Or.inr h
  have hl : lv_has ls 2 [(0, .ref h0), (1, .int wd)] := hl
  refine lv_aload_n hx hb dX10_needWord_0 rfl (lv_at hl 0 rfl) ?_
  refine M_V ⟨hx, hb, hml, hown, hts⟩ (m_X10_word l dC dI sa g h0 b ln sq i a  _ hL hM) (cwV 0 hts gX10_needWord_X10_word rfl rfl rfl (by decide +kernel) ⟨Nat.le_of_ble_eq_true rfl, Nat.le_of_ble_eq_true rfl⟩) hP hD hK hS hA hev rfl rfl rfl rfl hl.1 rfl (Nat.le_of_ble_eq_true rfl) dX10_needWord_1 ⟨(Nat.le_of_ble_eq_true rfl), (Nat.le_of_ble_eq_true rfl)⟩ (fun r u H locs hw hP hD hS => ?_)
  obtain ⟨x22_1, rfl⟩ : ∃ z, z = u := ⟨_, rfl⟩
  have hw : (∃ z : Int32, r = some (.int z) ∧ (z = cm (Kp (a 19) ln sq.1))) ∧ (x22_1 = nI sq.1) := hw
  obtain ⟨⟨z_3, rfl, hz_z_3⟩, hw_2⟩ := hw
  have hP : va_P (dC, dI) vwCl (mw g h0 b (va_up i 22 x22_1) a) _ := hP
  have hD : va_D _ (mw g h0 b (va_up i 22 x22_1) a) := hD
  refine W.eq (g2 := F0 m 4 ls [.int z_3]) rfl ?_
  have hmq_4 : MI (a 19) ln sq x22_1 (i 23) (i 24) := (hM).sk hw_2
  refine lv_iload_n hx hb dX10_needWord_4 rfl (lv_at hl 1 rfl) ?_
  refine lv_icmp_eq (tgt := 18) hx hb dX10_needWord_5 (by decide) (fun c_5 => ?_) (fun c_5 => ?_)
  · have nc_5 := eq_i c_5
    refine lv_aload_n hx hb dX10_needWord_18 rfl (lv_at hl 0 rfl) ?_
    refine lv_iload_n hx hb dX10_needWord_19 rfl (lv_at hl 1 rfl) ?_
    have hcm := hz_z_3.symm.trans c_5
    obtain ⟨kq, hkq⟩ := cm_k (k := Kp (a 19) ln sq.1) (z := wd) hcm.symm (by rcases hcw with h9 | h9 <;> (rw [h9.2]; decide))
    refine M_V ⟨hx, hb, hml, hown, hts⟩ (m_X10_pass l dC dI sa g h0 b ln sq kq (va_up i 22 x22_1) a wd _ hw_2 hkq) (cwV 1 hts gX10_needWord_X10_pass rfl rfl rfl (by decide +kernel) ⟨Nat.le_of_ble_eq_true rfl, Nat.le_of_ble_eq_true rfl⟩) hP hD hK hS hA hev rfl rfl rfl rfl hl.1 rfl (Nat.le_of_ble_eq_true rfl) dX10_needWord_20 ⟨(Nat.le_of_ble_eq_true rfl), (Nat.le_of_ble_eq_true rfl)⟩ (fun r u H locs hw hP hD hS => ?_)
    obtain ⟨x22_6, rfl⟩ : ∃ z, z = u := ⟨_, rfl⟩
    have hw : (r = none) ∧ (x22_6 = nI (nx (a 19) ln sq.1)) := hw
    obtain ⟨rfl, hw_7⟩ := hw
    have hP : va_P (dC, dI) vwCl (mw g h0 b (va_up i 22 x22_6) a) _ := hP
    have hD : va_D _ (mw g h0 b (va_up i 22 x22_6) a) := hD
    refine W.eq (g2 := F0 m 23 ls []) rfl ?_
    refine lv_iconst (v := 1) hx hb dX10_needWord_23 (by decide) ?_
    exact M_z hx hb hr rfl hlocks (x22_6, (i 23), (i 24)) hP hD hK hS ⟨Or.inr ⟨rfl, (hmq_4).pass ((cw_eq hcw).mp hcm) (wd_at hkq.2.1 hkq.2.2).1 hw_7⟩, trivial⟩ (Nat.le_of_ble_eq_true rfl) (Nat.le_of_ble_eq_true rfl) dX10_needWord_24
  · have nc_5 := ne_i c_5
    refine lv_aload_n hx hb dX10_needWord_8 rfl (lv_at hl 0 rfl) ?_
    refine lv_iconst (v := 1) hx hb dX10_needWord_9 (by decide) ?_
    refine lv_aload_n hx hb dX10_needWord_10 rfl (lv_at hl 0 rfl) ?_
    refine va_get (D := (dC, dI)) (ci := 10) (v := .int x22_1) (C := RX10) (T := TX10) (N := 51) hx hb hts inw_X10_needWord_10 hown hK hP 0 rfl rfl 22 (by decide) (hts (.fieldLink RX10 168 "VatHouseModel" "at" "I") (List.mem_of_getElem? (i := 1) (by exact rfl))) (fun _ h9 => h9) rfl dX10_needWord_11 ?_
    refine M_V ⟨hx, hb, hml, hown, hts⟩ (m_X10_wrong l dC dI sa g h0 b (va_up i 22 x22_1) a (1 : Int32) x22_1 _ (hmq_4).1) (cwV 2 hts gX10_needWord_X10_wrong rfl rfl rfl (by decide +kernel) ⟨Nat.le_of_ble_eq_true rfl, Nat.le_of_ble_eq_true rfl⟩) hP hD hK hS hA hev rfl rfl rfl rfl hl.1 rfl (Nat.le_of_ble_eq_true rfl) dX10_needWord_14 ⟨(Nat.le_of_ble_eq_true rfl), (Nat.le_of_ble_eq_true rfl)⟩ (fun r u H locs hw hP hD hS => ?_)
    obtain ⟨x23_8, x24_9⟩ := u
    have hw : ((r = some (.int 0) ∧ (x23_8 = (1 : Int32) ∧ x24_9 = x22_1)) ∨ (r = some (.int 1) ∧ (False))) ∧ (True) := hw
    obtain ⟨⟨rfl, hz2_11⟩ | ⟨rfl, hz2_11⟩, hw_10⟩ := hw
    · have hP : va_P (dC, dI) vwCl (mw g h0 b (va_up (va_up (va_up i 22 x22_1) 23 x23_8) 24 x24_9) a) _ := hP
      have hD : va_D _ (mw g h0 b (va_up (va_up (va_up i 22 x22_1) 23 x23_8) 24 x24_9) a) := hD
      refine W.eq (g2 := F0 m 17 ls [.int 0]) rfl ?_
      exact M_z hx hb hr rfl hlocks (x22_1, x23_8, x24_9) hP hD hK hS ⟨Or.inl ⟨rfl, (hmq_4).fl (fun h9 => c_5 (hz_z_3.trans ((cw_eq hcw).mpr h9))) hz2_11.1 (hz2_11.2.trans hw_2)⟩, trivial⟩ (Nat.le_of_ble_eq_true rfl) (Nat.le_of_ble_eq_true rfl) dX10_needWord_17
    · have hP : va_P (dC, dI) vwCl (mw g h0 b (va_up (va_up (va_up i 22 x22_1) 23 x23_8) 24 x24_9) a) _ := hP
      have hD : va_D _ (mw g h0 b (va_up (va_up (va_up i 22 x22_1) 23 x23_8) 24 x24_9) a) := hD
      refine W.eq (g2 := F0 m 17 ls [.int 1]) rfl ?_
      exact hz2_11.elim

section NUM
variable {tt : Nat → Int32} {ln : Nat} {r : SG} {x22 x23 x24 lo hi y z : Int32}
theorem MI.num1 (h : MI tt ln r x22 x23 x24) (hK : ¬ (r.1 < ln ∧ isD (tt r.1) = true)) (hy : y = 1) (hz : z = nI r.1) : MO (gnu (Kp tt ln) (Vp tt ln) (nq tt ln) lo hi r) y z := by
  have hK2 : ¬ (Kp tt ln r.1 = -1 ∨ Kp tt ln r.1 = -2) := fun g => hK (Kp_num.mp g)
  have e : gnu (Kp tt ln) (Vp tt ln) (nq tt ln) lo hi r = gpa (Kp tt ln) (nq tt ln) (-1) r := by
    unfold gnu
    rw [if_pos h.2.1, if_neg]
    rintro (g | ⟨g, -⟩)
    · exact hK2 (Or.inr g)
    · exact hK2 (Or.inl g)
  rw [e]
  exact h.fl (fun g => hK2 (Or.inl g)) hy hz
theorem MI.num2 (h : MI tt ln r x22 x23 x24) (hK : Kp tt ln r.1 = -2 ∨ (Kp tt ln r.1 = -1 ∧ (Vp tt ln r.1 < lo ∨ hi < Vp tt ln r.1))) (hy : y = 2) (hz : z = nI r.1) : MO (gnu (Kp tt ln) (Vp tt ln) (nq tt ln) lo hi r) y z := by
  have e : gnu (Kp tt ln) (Vp tt ln) (nq tt ln) lo hi r = (r.1, r.2.1, 2, nI r.1) := by
    unfold gnu gfl
    rw [if_pos h.2.1, if_pos hK]
  rw [e]
  exact ⟨hy, hz, by show ¬ (2 : Int32) = 0; decide, by rw [hy]; decide⟩
theorem MI.num3 (h : MI tt ln r x22 x23 x24) (hK : Kp tt ln r.1 = -1) (hq : r.1 < ln) (h1 : ¬ Vp tt ln r.1 < lo) (h2 : ¬ hi < Vp tt ln r.1) (hy : y = nI (nx tt ln r.1)) : MI tt ln (gnu (Kp tt ln) (Vp tt ln) (nq tt ln) lo hi r) y x23 x24 := by
  have e : gnu (Kp tt ln) (Vp tt ln) (nq tt ln) lo hi r = gpa (Kp tt ln) (nq tt ln) (-1) r := by
    unfold gnu
    rw [if_pos h.2.1, if_neg]
    rintro (g | ⟨-, g | g⟩)
    · rw [hK] at g; exact absurd g (by decide)
    · exact h1 g
    · exact h2 g
  rw [e]
  exact h.pass hK hq hy
theorem MO.nu (h : MO r y z) : MO (gnu (Kp tt ln) (Vp tt ln) (nq tt ln) lo hi r) y z := by
  rw [gnu_fx h.2.2.1]; exact h
theorem MO.pa {c : Int32} (h : MO r y z) : MO (gpa (Kp tt ln) (nq tt ln) c r) y z := by
  rw [gpa_fx h.2.2.1]; exact h
end NUM
theorem dgm_go {tt : Nat → Int32} {pp p1 : Nat} {va y1 y2 y3 b : Int32} (h : pp ≤ p1) (h4 : p1 - pp < 4) (hv : va = vF tt pp (min 4 (p1 - pp))) (hb : b = tt p1) (e1 : y1 = 10 * va) (e2 : y2 = y1 + b) (e3 : y3 = y2 - 48) : y3 = vF tt pp (min 4 (p1 + 1 - pp)) := dg_go h h4 hv hb (e1.trans (Int32.mul_comm _ _)) e2 e3
theorem d4_lt {pp p1 : Nat} {k1 a0 z : Int32} (h : pp ≤ p1) (hp : p1 < 2147483648) (h1 : k1 = nI p1) (h0 : a0 = nI pp) (e : z = k1 - a0) (c : ¬ 4 ≤ z) : p1 - pp < 4 := by
  rw [dg_4 h hp h1 h0 e] at c
  have c : ¬ nI 4 ≤ nI (p1 - pp) := c
  rw [nI_leI (by omega) (by omega)] at c
  omega
theorem d4_ge {pp p1 : Nat} {k1 a0 z : Int32} (h : pp ≤ p1) (hp : p1 < 2147483648) (h1 : k1 = nI p1) (h0 : a0 = nI pp) (e : z = k1 - a0) (c : 4 ≤ z) : 4 ≤ p1 - pp := by
  rw [dg_4 h hp h1 h0 e] at c
  have c : nI 4 ≤ nI (p1 - pp) := c
  rw [nI_leI (by omega) (by omega)] at c
  omega
theorem d4_gt {pp p1 : Nat} {k1 a0 z : Int32} (h : pp ≤ p1) (hp : p1 < 2147483648) (h1 : k1 = nI p1) (h0 : a0 = nI pp) (e : z = k1 - a0) (c : 4 < z) : 4 < p1 - pp := by
  rw [dg_4 h hp h1 h0 e] at c
  have c : nI 4 < nI (p1 - pp) := c
  rw [nI_ltI (by omega) (by omega)] at c
  omega
theorem d4_le {pp p1 : Nat} {k1 a0 z : Int32} (h : pp ≤ p1) (hp : p1 < 2147483648) (h1 : k1 = nI p1) (h0 : a0 = nI pp) (e : z = k1 - a0) (c : ¬ 4 < z) : ¬ 4 < p1 - pp := by
  rw [dg_4 h hp h1 h0 e] at c
  have c : ¬ nI 4 < nI (p1 - pp) := c
  rw [nI_ltI (by omega) (by omega)] at c
  omega

noncomputable abbrev rm_X10_number : Room := { frames := 1, cells := 0, slots := 0, locals := 22 }
theorem inw_X10_number_10 : ∀ w ∈ wsX100, w ∈ wsX10_number := fun _ h => List.mem_cons_of_mem _ (List.mem_append_right _ h)
set_option maxHeartbeats 1000000 in
set_option maxRecDepth 100000 in
theorem m_X10_number (l : Launch) (dC : Nat → ClassId) (dI : Nat → Nat → Nat) (sa : Nat → Nat) (g : Nat → Nat) (h0 : Nat) (b : Nat → Nat) (ln : Nat) (sq : SG) (i : Nat → Int32) (a : Nat → Nat → Int32) (lo : Int32) (hi : Int32) (sz : Nat) (hL : (i 21) = nI ln ∧ ln ≤ 1500) (hM : MI (a 19) ln sq (i 22) (i 23) (i 24)) : CT l dC dI sa yX10_number wsX10_number rm_X10_number [.ref h0, .int lo, .int hi] (mw g h0 b i a) (tyM g) sz (fun (r : Option Value) (u : Int32 × Int32 × Int32 × Int32) => match u with | (x22, x23, x24, x25) => ((r = some (.int 0) ∧ (MO (gnu (Kp (a 19) ln) (Vp (a 19) ln) (nq (a 19) ln) lo hi sq) x23 x24)) ∨ (r = some (.int 1) ∧ (MI (a 19) ln (gnu (Kp (a 19) ln) (Vp (a 19) ln) (nq (a 19) ln) lo hi sq) x22 x23 x24 ∧ x25 = (Vp (a 19) ln sq.1) ∧ lo.toInt ≤ (Vp (a 19) ln sq.1).toInt ∧ (Vp (a 19) ln sq.1).toInt ≤ hi.toInt))) ∧ (True)) (fun (u : Int32 × Int32 × Int32 × Int32) => match u with | (x22, x23, x24, x25) => mw g h0 b (va_up (va_up (va_up (va_up i 22 x22) 23 x23) 24 x24) 25 x25) a) (fun _ => []) 0 0 := by
  refine CT.start (cc := cX10_number) (maxL := 4) (ret := (some .boolean)) (by decide) rfl (Nat.le_of_ble_eq_true rfl) ?_
  intro p e s m below meth c ls hst hP hK hD hev hS hl
  obtain ⟨hx, hb, hr, hml, hts, hown, hlocks, hin⟩ := hst
  have hown : s.vm.findClass RX10 = some m.cls := hown
  have hA : ∀ q : Nat, s.heap.size ≤ q → va_A (mw g h0 b i a) s.heap.size q := fun _ h => Or.inr h
  have hl : lv_has ls 4 [(0, .ref h0), (1, .int lo), (2, .int hi)] := hl
  refine lv_aload_n hx hb dX10_number_0 rfl (lv_at hl 0 rfl) ?_
  refine M_V ⟨hx, hb, hml, hown, hts⟩ (m_X10_skip l dC dI sa g h0 b ln sq i a  _ hL hM) (cwV 0 hts gX10_number_X10_skip rfl rfl rfl (by decide +kernel) ⟨Nat.le_of_ble_eq_true rfl, Nat.le_of_ble_eq_true rfl⟩) hP hD hK hS hA hev rfl rfl rfl rfl hl.1 rfl (Nat.le_of_ble_eq_true rfl) dX10_number_1 ⟨(Nat.le_of_ble_eq_true rfl), (Nat.le_of_ble_eq_true rfl)⟩ (fun r u H locs hw hP hD hS => ?_)
  obtain ⟨x22_1, rfl⟩ : ∃ z, z = u := ⟨_, rfl⟩
  have hw : (r = none) ∧ (x22_1 = nI sq.1) := hw
  obtain ⟨rfl, hw_2⟩ := hw
  have hP : va_P (dC, dI) vwCl (mw g h0 b (va_up i 22 x22_1) a) _ := hP
  have hD : va_D _ (mw g h0 b (va_up i 22 x22_1) a) := hD
  refine W.eq (g2 := F0 m 4 ls []) rfl ?_
  have hmq_3 : MI (a 19) ln sq x22_1 (i 23) (i 24) := (hM).sk hw_2
  refine lv_aload_n hx hb dX10_number_4 rfl (lv_at hl 0 rfl) ?_
  refine va_get (D := (dC, dI)) (ci := 10) (v := .int x22_1) (C := RX10) (T := TX10) (N := 51) hx hb hts inw_X10_number_10 hown hK hP 0 rfl rfl 22 (by decide) (hts (.fieldLink RX10 168 "VatHouseModel" "at" "I") (List.mem_of_getElem? (i := 1) (by exact rfl))) (fun _ h9 => h9) rfl dX10_number_5 ?_
  refine lv_istore_n (lv' := [(3, .int x22_1), (0, .ref h0), (1, .int lo), (2, .int hi)]) hx hb dX10_number_8 rfl hl (by decide) rfl (fun ls hl => ?_)
  refine lv_aload_n hx hb dX10_number_9 rfl (lv_at hl 1 rfl) ?_
  refine va_get (D := (dC, dI)) (ci := 10) (v := .int x22_1) (C := RX10) (T := TX10) (N := 51) hx hb hts inw_X10_number_10 hown hK hP 0 rfl rfl 22 (by decide) (hts (.fieldLink RX10 168 "VatHouseModel" "at" "I") (List.mem_of_getElem? (i := 1) (by exact rfl))) (fun _ h9 => h9) rfl dX10_number_10 ?_
  refine lv_aload_n hx hb dX10_number_13 rfl (lv_at hl 1 rfl) ?_
  refine va_get (D := (dC, dI)) (ci := 10) (v := .int (i 21)) (C := RX10) (T := TX10) (N := 51) hx hb hts inw_X10_number_10 hown hK hP 0 rfl rfl 21 (by decide) (hts (.fieldLink RX10 171 "VatHouseModel" "size" "I") (List.mem_of_getElem? (i := 2) (by exact rfl))) (fun _ h9 => h9) rfl dX10_number_14 ?_
  refine lv_icmp_ge (tgt := 35) hx hb dX10_number_17 (by decide) (fun c_4 => ?_) (fun c_4 => ?_)
  · have nc_4 := le_i c_4
    have hnd9 : ¬ (sq.1 < ln ∧ isD ((a 19) sq.1) = true) := fun h9 => absurd h9.1 (Nat.not_lt.mpr (pl_ge hw_2 hL.1 (by have := (hmq_3).q.1; have := hL.2; omega) (by have := hL.2; omega) c_4))
    refine lv_aload_n hx hb dX10_number_35 rfl (lv_at hl 1 rfl) ?_
    refine lv_iconst (v := 1) hx hb dX10_number_36 (by decide) ?_
    refine lv_aload_n hx hb dX10_number_37 rfl (lv_at hl 1 rfl) ?_
    refine va_get (D := (dC, dI)) (ci := 10) (v := .int x22_1) (C := RX10) (T := TX10) (N := 51) hx hb hts inw_X10_number_10 hown hK hP 0 rfl rfl 22 (by decide) (hts (.fieldLink RX10 168 "VatHouseModel" "at" "I") (List.mem_of_getElem? (i := 1) (by exact rfl))) (fun _ h9 => h9) rfl dX10_number_38 ?_
    refine M_V ⟨hx, hb, hml, hown, hts⟩ (m_X10_wrong l dC dI sa g h0 b (va_up i 22 x22_1) a (1 : Int32) x22_1 _ (hmq_3).1) (cwV 2 hts gX10_number_X10_wrong rfl rfl rfl (by decide +kernel) ⟨Nat.le_of_ble_eq_true rfl, Nat.le_of_ble_eq_true rfl⟩) hP hD hK hS hA hev rfl rfl rfl rfl hl.1 rfl (Nat.le_of_ble_eq_true rfl) dX10_number_41 ⟨(Nat.le_of_ble_eq_true rfl), (Nat.le_of_ble_eq_true rfl)⟩ (fun r u H locs hw hP hD hS => ?_)
    obtain ⟨x23_5, x24_6⟩ := u
    have hw : ((r = some (.int 0) ∧ (x23_5 = (1 : Int32) ∧ x24_6 = x22_1)) ∨ (r = some (.int 1) ∧ (False))) ∧ (True) := hw
    obtain ⟨⟨rfl, hz2_8⟩ | ⟨rfl, hz2_8⟩, hw_7⟩ := hw
    · have hP : va_P (dC, dI) vwCl (mw g h0 b (va_up (va_up (va_up i 22 x22_1) 23 x23_5) 24 x24_6) a) _ := hP
      have hD : va_D _ (mw g h0 b (va_up (va_up (va_up i 22 x22_1) 23 x23_5) 24 x24_6) a) := hD
      refine W.eq (g2 := F0 m 44 ls [.int 0]) rfl ?_
      exact M_z hx hb hr rfl hlocks (x22_1, x23_5, x24_6, (i 25)) hP hD hK hS ⟨Or.inl ⟨rfl, (hmq_3).num1 hnd9 hz2_8.1 (hz2_8.2.trans hw_2)⟩, trivial⟩ (Nat.le_of_ble_eq_true rfl) (Nat.le_of_ble_eq_true rfl) dX10_number_44
    · have hP : va_P (dC, dI) vwCl (mw g h0 b (va_up (va_up (va_up i 22 x22_1) 23 x23_5) 24 x24_6) a) _ := hP
      have hD : va_D _ (mw g h0 b (va_up (va_up (va_up i 22 x22_1) 23 x23_5) 24 x24_6) a) := hD
      refine W.eq (g2 := F0 m 44 ls [.int 1]) rfl ?_
      exact hz2_8.elim
  · have nc_4 := nle_i c_4
    refine lv_aload_n hx hb dX10_number_20 rfl (lv_at hl 1 rfl) ?_
    refine va_get (D := (dC, dI)) (ci := 10) (v := .ref (b 19)) (C := RX10) (T := TX10) (N := 51) hx hb hts inw_X10_number_10 hown hK hP 0 rfl rfl 19 (by decide) (hts (.fieldLink RX10 53 "VatHouseModel" "tape" "[I") (List.mem_of_getElem? (i := 3) (by exact rfl))) (fun _ h9 => h9) rfl dX10_number_21 ?_
    refine lv_aload_n hx hb dX10_number_24 rfl (lv_at hl 1 rfl) ?_
    refine va_get (D := (dC, dI)) (ci := 10) (v := .int x22_1) (C := RX10) (T := TX10) (N := 51) hx hb hts inw_X10_number_10 hown hK hP 0 rfl rfl 22 (by decide) (hts (.fieldLink RX10 168 "VatHouseModel" "at" "I") (List.mem_of_getElem? (i := 1) (by exact rfl))) (fun _ h9 => h9) rfl dX10_number_25 ?_
    refine va_iald hx hb hK hP 15 14 rfl rfl (by rw [hw_2]; exact vp_in_nI (by have := hL.2; have := (hmq_3).q.1; have := pl_lt hw_2 hL.1 (by omega) (by omega) c_4; omega) (by decide)) dX10_number_28 ?_
    refine lv_topi (fun z_9 ez_9 => ?_)
    have ez_9 : z_9 = (a 19) x22_1.toNatClampNeg := ez_9
    obtain ⟨zl_10, hzl_11, Ml_12⟩ := pu_isDigit l dC dI sa z_9
    refine pu_S ⟨hx, hb, hml, hown, hts⟩ (Ml_12 _) (va_cwS 1 hts gX10_number_X10_isDigit rfl rfl rfl (by decide +kernel) ⟨Nat.le_of_ble_eq_true rfl, Nat.le_of_ble_eq_true rfl⟩) hP hK hS hA hev rfl hl.1 rfl (Nat.le_of_ble_eq_true rfl) dX10_number_29 ⟨Nat.le_of_ble_eq_true rfl, Nat.le_of_ble_eq_true rfl⟩ (fun H locs hP hS => ?_)
    refine W.eq (g2 := F0 m 32 ls [.int zl_10]) rfl ?_
    refine lv_if_ne (tgt := 45) hx hb dX10_number_32 (by decide) (fun c_13 => ?_) (fun c_13 => ?_)
    · have nc_13 := ne_i c_13
      have lc_13 : (0 : Int32).toInt = 0 := by decide
      have hdq := (pl_lt hw_2 hL.1 (by have := (hmq_3).q.1; have := hL.2; omega) (by have := hL.2; omega) c_4)
      have hdd : isD ((a 19) sq.1) = true := by rw [← (ld_at ez_9 hw_2 (by have := (hmq_3).q.1; have := hL.2; omega))]; exact zb1 hzl_11 c_13
      obtain ⟨hKd, hVd, hNd⟩ := Kp_dig hdq hdd
      refine lv_aload_n hx hb dX10_number_45 rfl (lv_at hl 1 rfl) ?_
      refine lv_iconst (v := 0) hx hb dX10_number_46 (by decide) ?_
      refine va_put (D := (dC, dI)) (ci := 10) (v := .int 0) (ty := .int) (C := RX10) (T := TX10) (N := 51) hx hb hts inw_X10_number_10 tyX10 tyX10_ok nmX10 hown hK hP hD hS 0 rfl rfl 25 (by decide) (hts (.fieldLink RX10 243 "VatHouseModel" "value" "I") (List.mem_of_getElem? (i := 4) (by exact rfl))) (fun _ h9 => h9) rfl (tyX10_ok 25 (by decide)) rfl rfl (Nat.le_of_ble_eq_true rfl) dX10_number_47 (fun H locs hP hD hS => ?_)
      have hP : va_P (dC, dI) vwCl (mw g h0 b (va_up (va_up i 22 x22_1) 25 (0 : Int32)) a) _ := hP
      have hD : va_D _ (mw g h0 b (va_up (va_up i 22 x22_1) 25 (0 : Int32)) a) := hD
      have lp : ∀ (n : Nat) (l22 : Int32) (l25 : Int32) (H : Heap) (locs : List Loc) (ls : Array Slot), (∃ p1 : Nat, l22 = nI p1 ∧ sq.1 ≤ p1 ∧ p1 ≤ ln ∧ ln < p1 + n ∧ de_ (a 19) ln p1 = de_ (a 19) ln sq.1 ∧ l25 = vF (a 19) sq.1 (min 4 (p1 - sq.1))) → va_P (dC, dI) vwCl (mw g h0 b (va_up (va_up i 22 l22) 25 l25) a) H → va_D (va_A (mw g h0 b i a) s.heap.size) (mw g h0 b (va_up (va_up i 22 l22) 25 l25) a) → va_S (va_A (mw g h0 b i a) s.heap.size) s.heap H locs → lv_has ls 4 [(3, .int x22_1), (0, .ref h0), (1, .int lo), (2, .int hi)] → W p l e rm_X10_number s m [.ref h0, .int lo, .int hi].toArray below meth c H locs 0 0 (MQ below (Qg (fun (r : Option Value) (u : Int32 × Int32 × Int32 × Int32) => match u with | (x22, x23, x24, x25) => ((r = some (.int 0) ∧ (MO (gnu (Kp (a 19) ln) (Vp (a 19) ln) (nq (a 19) ln) lo hi sq) x23 x24)) ∨ (r = some (.int 1) ∧ (MI (a 19) ln (gnu (Kp (a 19) ln) (Vp (a 19) ln) (nq (a 19) ln) lo hi sq) x22 x23 x24 ∧ x25 = (Vp (a 19) ln sq.1) ∧ lo.toInt ≤ (Vp (a 19) ln sq.1).toInt ∧ (Vp (a 19) ln sq.1).toInt ≤ hi.toInt))) ∧ (True)) (fun u t => QW dC dI (va_A (mw g h0 b i a) s.heap.size) ((fun (u : Int32 × Int32 × Int32 × Int32) => match u with | (x22, x23, x24, x25) => mw g h0 b (va_up (va_up (va_up (va_up i 22 x22) 23 x23) 24 x24) 25 x25) a) u) [] t) (va_A (mw g h0 b i a) s.heap.size)) [.ref h0, .int lo, .int hi].toArray s 0 0 (va_A (mw g h0 b i a) s.heap.size)) (F0 m 50 ls []) := by
        intro n
        induction n with
        | zero => intro l22 l25 H locs ls hm  hP hD hS hl; exact absurd hm (by rintro ⟨p1, -, -, h1, h2, -⟩; omega)
        | succ n ih =>
          intro l22 l25 H locs ls hm  hP hD hS hl
          refine lv_aload_n hx hb dX10_number_50 rfl (lv_at hl 1 rfl) ?_
          refine va_get (D := (dC, dI)) (ci := 10) (v := .int l22) (C := RX10) (T := TX10) (N := 51) hx hb hts inw_X10_number_10 hown hK hP 0 rfl rfl 22 (by decide) (hts (.fieldLink RX10 168 "VatHouseModel" "at" "I") (List.mem_of_getElem? (i := 1) (by exact rfl))) (fun _ h9 => h9) rfl dX10_number_51 ?_
          refine lv_aload_n hx hb dX10_number_54 rfl (lv_at hl 1 rfl) ?_
          refine va_get (D := (dC, dI)) (ci := 10) (v := .int (i 21)) (C := RX10) (T := TX10) (N := 51) hx hb hts inw_X10_number_10 hown hK hP 0 rfl rfl 21 (by decide) (hts (.fieldLink RX10 171 "VatHouseModel" "size" "I") (List.mem_of_getElem? (i := 2) (by exact rfl))) (fun _ h9 => h9) rfl dX10_number_55 ?_
          refine lv_icmp_ge (tgt := 123) hx hb dX10_number_58 (by decide) (fun c_14 => ?_) (fun c_14 => ?_)
          · have nc_14 := le_i c_14
            obtain ⟨p1, hp1, hp2, hp3, hp4, hp5, hp7⟩ := hm
            have hE : p1 = de_ (a 19) ln sq.1 := by rw [← hp5]; exact (re_stop (Or.inl (pl_ge hp1 hL.1 (by omega) (by omega) c_14))).symm
            rw [← hE] at hKd hVd hNd
            rw [← hp7] at hVd
            refine lv_aload_n hx hb dX10_number_123 rfl (lv_at hl 1 rfl) ?_
            refine va_get (D := (dC, dI)) (ci := 10) (v := .int l22) (C := RX10) (T := TX10) (N := 51) hx hb hts inw_X10_number_10 hown hK hP 0 rfl rfl 22 (by decide) (hts (.fieldLink RX10 168 "VatHouseModel" "at" "I") (List.mem_of_getElem? (i := 1) (by exact rfl))) (fun _ h9 => h9) rfl dX10_number_124 ?_
            refine lv_iload_n hx hb dX10_number_127 rfl (lv_at hl 0 rfl) ?_
            refine lv_isub hx hb dX10_number_128 ?_
            refine lv_topi (fun z_15 ez_15 => ?_)
            refine lv_iconst (v := 4) hx hb dX10_number_129 (by decide) ?_
            refine lv_icmp_gt (tgt := 149) hx hb dX10_number_130 (by decide) (fun c_16 => ?_) (fun c_16 => ?_)
            · have nc_16 := lt_i c_16
              have lc_16 : (4 : Int32).toInt = 4 := by decide
              refine lv_aload_n hx hb dX10_number_149 rfl (lv_at hl 1 rfl) ?_
              refine lv_iconst (v := 2) hx hb dX10_number_150 (by decide) ?_
              refine lv_iload_n hx hb dX10_number_151 rfl (lv_at hl 0 rfl) ?_
              refine M_V ⟨hx, hb, hml, hown, hts⟩ (m_X10_wrong l dC dI sa g h0 b (va_up (va_up i 22 l22) 25 l25) a (2 : Int32) x22_1 _ (hmq_3).1) (cwV 2 hts gX10_number_X10_wrong rfl rfl rfl (by decide +kernel) ⟨Nat.le_of_ble_eq_true rfl, Nat.le_of_ble_eq_true rfl⟩) hP hD hK hS hA hev rfl rfl rfl rfl hl.1 rfl (Nat.le_of_ble_eq_true rfl) dX10_number_152 ⟨(Nat.le_of_ble_eq_true rfl), (Nat.le_of_ble_eq_true rfl)⟩ (fun r u H locs hw hP hD hS => ?_)
              obtain ⟨x23_17, x24_18⟩ := u
              have hw : ((r = some (.int 0) ∧ (x23_17 = (2 : Int32) ∧ x24_18 = x22_1)) ∨ (r = some (.int 1) ∧ (False))) ∧ (True) := hw
              obtain ⟨⟨rfl, hz2_20⟩ | ⟨rfl, hz2_20⟩, hw_19⟩ := hw
              · have hP : va_P (dC, dI) vwCl (mw g h0 b (va_up (va_up (va_up (va_up i 22 l22) 23 x23_17) 24 x24_18) 25 l25) a) _ := hP
                have hD : va_D _ (mw g h0 b (va_up (va_up (va_up (va_up i 22 l22) 23 x23_17) 24 x24_18) 25 l25) a) := hD
                refine W.eq (g2 := F0 m 155 ls [.int 0]) rfl ?_
                refine lv_if_eq (tgt := 162) hx hb dX10_number_155 (by decide) (fun _ => ?_) (fun c_21 => absurd c_21 (by decide))
                refine lv_iconst (v := 0) hx hb dX10_number_162 (by decide) ?_
                exact M_z hx hb hr rfl hlocks (l22, x23_17, x24_18, l25) hP hD hK hS ⟨Or.inl ⟨rfl, (hmq_3).num2 (Or.inl (by rw [hKd]; exact if_pos (d4_gt hp2 (by omega) hp1 hw_2 ez_15 c_16))) hz2_20.1 (hz2_20.2.trans hw_2)⟩, trivial⟩ (Nat.le_of_ble_eq_true rfl) (Nat.le_of_ble_eq_true rfl) dX10_number_163
              · have hP : va_P (dC, dI) vwCl (mw g h0 b (va_up (va_up (va_up (va_up i 22 l22) 23 x23_17) 24 x24_18) 25 l25) a) _ := hP
                have hD : va_D _ (mw g h0 b (va_up (va_up (va_up (va_up i 22 l22) 23 x23_17) 24 x24_18) 25 l25) a) := hD
                refine W.eq (g2 := F0 m 155 ls [.int 1]) rfl ?_
                exact hz2_20.elim
            · have nc_16 := nlt_i c_16
              have lc_16 : (4 : Int32).toInt = 4 := by decide
              refine lv_aload_n hx hb dX10_number_133 rfl (lv_at hl 1 rfl) ?_
              refine va_get (D := (dC, dI)) (ci := 10) (v := .int l25) (C := RX10) (T := TX10) (N := 51) hx hb hts inw_X10_number_10 hown hK hP 0 rfl rfl 25 (by decide) (hts (.fieldLink RX10 243 "VatHouseModel" "value" "I") (List.mem_of_getElem? (i := 4) (by exact rfl))) (fun _ h9 => h9) rfl dX10_number_134 ?_
              refine lv_iload_n hx hb dX10_number_137 rfl (lv_at hl 2 rfl) ?_
              refine lv_icmp_lt (tgt := 149) hx hb dX10_number_138 (by decide) (fun c_22 => ?_) (fun c_22 => ?_)
              · have nc_22 := lt_i c_22
                refine lv_aload_n hx hb dX10_number_149 rfl (lv_at hl 1 rfl) ?_
                refine lv_iconst (v := 2) hx hb dX10_number_150 (by decide) ?_
                refine lv_iload_n hx hb dX10_number_151 rfl (lv_at hl 0 rfl) ?_
                refine M_V ⟨hx, hb, hml, hown, hts⟩ (m_X10_wrong l dC dI sa g h0 b (va_up (va_up i 22 l22) 25 l25) a (2 : Int32) x22_1 _ (hmq_3).1) (cwV 2 hts gX10_number_X10_wrong rfl rfl rfl (by decide +kernel) ⟨Nat.le_of_ble_eq_true rfl, Nat.le_of_ble_eq_true rfl⟩) hP hD hK hS hA hev rfl rfl rfl rfl hl.1 rfl (Nat.le_of_ble_eq_true rfl) dX10_number_152 ⟨(Nat.le_of_ble_eq_true rfl), (Nat.le_of_ble_eq_true rfl)⟩ (fun r u H locs hw hP hD hS => ?_)
                obtain ⟨x23_23, x24_24⟩ := u
                have hw : ((r = some (.int 0) ∧ (x23_23 = (2 : Int32) ∧ x24_24 = x22_1)) ∨ (r = some (.int 1) ∧ (False))) ∧ (True) := hw
                obtain ⟨⟨rfl, hz2_26⟩ | ⟨rfl, hz2_26⟩, hw_25⟩ := hw
                · have hP : va_P (dC, dI) vwCl (mw g h0 b (va_up (va_up (va_up (va_up i 22 l22) 23 x23_23) 24 x24_24) 25 l25) a) _ := hP
                  have hD : va_D _ (mw g h0 b (va_up (va_up (va_up (va_up i 22 l22) 23 x23_23) 24 x24_24) 25 l25) a) := hD
                  refine W.eq (g2 := F0 m 155 ls [.int 0]) rfl ?_
                  refine lv_if_eq (tgt := 162) hx hb dX10_number_155 (by decide) (fun _ => ?_) (fun c_27 => absurd c_27 (by decide))
                  refine lv_iconst (v := 0) hx hb dX10_number_162 (by decide) ?_
                  exact M_z hx hb hr rfl hlocks (l22, x23_23, x24_24, l25) hP hD hK hS ⟨Or.inl ⟨rfl, (hmq_3).num2 (Or.inr ⟨(by rw [hKd]; exact if_neg (d4_le hp2 (by omega) hp1 hw_2 ez_15 c_16)), Or.inl (by rw [hVd]; exact c_22)⟩) hz2_26.1 (hz2_26.2.trans hw_2)⟩, trivial⟩ (Nat.le_of_ble_eq_true rfl) (Nat.le_of_ble_eq_true rfl) dX10_number_163
                · have hP : va_P (dC, dI) vwCl (mw g h0 b (va_up (va_up (va_up (va_up i 22 l22) 23 x23_23) 24 x24_24) 25 l25) a) _ := hP
                  have hD : va_D _ (mw g h0 b (va_up (va_up (va_up (va_up i 22 l22) 23 x23_23) 24 x24_24) 25 l25) a) := hD
                  refine W.eq (g2 := F0 m 155 ls [.int 1]) rfl ?_
                  exact hz2_26.elim
              · have nc_22 := nlt_i c_22
                refine lv_aload_n hx hb dX10_number_141 rfl (lv_at hl 1 rfl) ?_
                refine va_get (D := (dC, dI)) (ci := 10) (v := .int l25) (C := RX10) (T := TX10) (N := 51) hx hb hts inw_X10_number_10 hown hK hP 0 rfl rfl 25 (by decide) (hts (.fieldLink RX10 243 "VatHouseModel" "value" "I") (List.mem_of_getElem? (i := 4) (by exact rfl))) (fun _ h9 => h9) rfl dX10_number_142 ?_
                refine lv_iload_n hx hb dX10_number_145 rfl (lv_at hl 3 rfl) ?_
                refine lv_icmp_le (tgt := 158) hx hb dX10_number_146 (by decide) (fun c_28 => ?_) (fun c_28 => ?_)
                · have nc_28 := le_i c_28
                  refine lv_iconst (v := 1) hx hb dX10_number_158 (by decide) ?_
                  refine lv_goto (tgt := 163) hx hb dX10_number_159 (by decide) ?_
                  exact M_z hx hb hr rfl hlocks (l22, (i 23), (i 24), l25) hP hD hK hS ⟨Or.inr ⟨rfl, ⟨(hmq_3).num3 (by rw [hKd]; exact if_neg (d4_le hp2 (by omega) hp1 hw_2 ez_15 c_16)) hdq (by rw [hVd]; exact c_22) (by rw [hVd]; exact nlt_of_le c_28) (by rw [hNd]; exact hp1), hVd.symm, by rw [hVd]; exact nlt_i c_22, by rw [hVd]; exact le_i c_28⟩⟩, trivial⟩ (Nat.le_of_ble_eq_true rfl) (Nat.le_of_ble_eq_true rfl) dX10_number_163
                · have nc_28 := nle_i c_28
                  refine lv_aload_n hx hb dX10_number_149 rfl (lv_at hl 1 rfl) ?_
                  refine lv_iconst (v := 2) hx hb dX10_number_150 (by decide) ?_
                  refine lv_iload_n hx hb dX10_number_151 rfl (lv_at hl 0 rfl) ?_
                  refine M_V ⟨hx, hb, hml, hown, hts⟩ (m_X10_wrong l dC dI sa g h0 b (va_up (va_up i 22 l22) 25 l25) a (2 : Int32) x22_1 _ (hmq_3).1) (cwV 2 hts gX10_number_X10_wrong rfl rfl rfl (by decide +kernel) ⟨Nat.le_of_ble_eq_true rfl, Nat.le_of_ble_eq_true rfl⟩) hP hD hK hS hA hev rfl rfl rfl rfl hl.1 rfl (Nat.le_of_ble_eq_true rfl) dX10_number_152 ⟨(Nat.le_of_ble_eq_true rfl), (Nat.le_of_ble_eq_true rfl)⟩ (fun r u H locs hw hP hD hS => ?_)
                  obtain ⟨x23_29, x24_30⟩ := u
                  have hw : ((r = some (.int 0) ∧ (x23_29 = (2 : Int32) ∧ x24_30 = x22_1)) ∨ (r = some (.int 1) ∧ (False))) ∧ (True) := hw
                  obtain ⟨⟨rfl, hz2_32⟩ | ⟨rfl, hz2_32⟩, hw_31⟩ := hw
                  · have hP : va_P (dC, dI) vwCl (mw g h0 b (va_up (va_up (va_up (va_up i 22 l22) 23 x23_29) 24 x24_30) 25 l25) a) _ := hP
                    have hD : va_D _ (mw g h0 b (va_up (va_up (va_up (va_up i 22 l22) 23 x23_29) 24 x24_30) 25 l25) a) := hD
                    refine W.eq (g2 := F0 m 155 ls [.int 0]) rfl ?_
                    refine lv_if_eq (tgt := 162) hx hb dX10_number_155 (by decide) (fun _ => ?_) (fun c_33 => absurd c_33 (by decide))
                    refine lv_iconst (v := 0) hx hb dX10_number_162 (by decide) ?_
                    exact M_z hx hb hr rfl hlocks (l22, x23_29, x24_30, l25) hP hD hK hS ⟨Or.inl ⟨rfl, (hmq_3).num2 (Or.inr ⟨(by rw [hKd]; exact if_neg (d4_le hp2 (by omega) hp1 hw_2 ez_15 c_16)), Or.inr (by rw [hVd]; exact nle_lt c_28)⟩) hz2_32.1 (hz2_32.2.trans hw_2)⟩, trivial⟩ (Nat.le_of_ble_eq_true rfl) (Nat.le_of_ble_eq_true rfl) dX10_number_163
                  · have hP : va_P (dC, dI) vwCl (mw g h0 b (va_up (va_up (va_up (va_up i 22 l22) 23 x23_29) 24 x24_30) 25 l25) a) _ := hP
                    have hD : va_D _ (mw g h0 b (va_up (va_up (va_up (va_up i 22 l22) 23 x23_29) 24 x24_30) 25 l25) a) := hD
                    refine W.eq (g2 := F0 m 155 ls [.int 1]) rfl ?_
                    exact hz2_32.elim
          · have nc_14 := nle_i c_14
            obtain ⟨p1, hp1, hp2, hp3, hp4, hp5, hp7⟩ := hm
            have hp6 : p1 < ln := pl_lt hp1 hL.1 (by omega) (by omega) c_14
            refine lv_aload_n hx hb dX10_number_61 rfl (lv_at hl 1 rfl) ?_
            refine va_get (D := (dC, dI)) (ci := 10) (v := .ref (b 19)) (C := RX10) (T := TX10) (N := 51) hx hb hts inw_X10_number_10 hown hK hP 0 rfl rfl 19 (by decide) (hts (.fieldLink RX10 53 "VatHouseModel" "tape" "[I") (List.mem_of_getElem? (i := 3) (by exact rfl))) (fun _ h9 => h9) rfl dX10_number_62 ?_
            refine lv_aload_n hx hb dX10_number_65 rfl (lv_at hl 1 rfl) ?_
            refine va_get (D := (dC, dI)) (ci := 10) (v := .int l22) (C := RX10) (T := TX10) (N := 51) hx hb hts inw_X10_number_10 hown hK hP 0 rfl rfl 22 (by decide) (hts (.fieldLink RX10 168 "VatHouseModel" "at" "I") (List.mem_of_getElem? (i := 1) (by exact rfl))) (fun _ h9 => h9) rfl dX10_number_66 ?_
            refine va_iald hx hb hK hP 15 14 rfl rfl (by rw [hp1]; exact vp_in_nI (by have := hL.2; omega) (by decide)) dX10_number_69 ?_
            refine lv_topi (fun z_34 ez_34 => ?_)
            have ez_34 : z_34 = (a 19) l22.toNatClampNeg := ez_34
            have hzt := ld_at ez_34 hp1 (by omega)
            obtain ⟨zl_35, hzl_36, Ml_37⟩ := pu_isDigit l dC dI sa z_34
            refine pu_S ⟨hx, hb, hml, hown, hts⟩ (Ml_37 _) (va_cwS 1 hts gX10_number_X10_isDigit rfl rfl rfl (by decide +kernel) ⟨Nat.le_of_ble_eq_true rfl, Nat.le_of_ble_eq_true rfl⟩) hP hK hS hA hev rfl hl.1 rfl (Nat.le_of_ble_eq_true rfl) dX10_number_70 ⟨Nat.le_of_ble_eq_true rfl, Nat.le_of_ble_eq_true rfl⟩ (fun H locs hP hS => ?_)
            refine W.eq (g2 := F0 m 73 ls [.int zl_35]) rfl ?_
            refine lv_if_eq (tgt := 123) hx hb dX10_number_73 (by decide) (fun c_38 => ?_) (fun c_38 => ?_)
            · have nc_38 := eq_i c_38
              have lc_38 : (0 : Int32).toInt = 0 := by decide
              have hE : p1 = de_ (a 19) ln sq.1 := by rw [← hp5]; exact (re_stop (Q := fun x => isD ((a 19) x)) (Or.inr (by show isD ((a 19) p1) = false; rw [← hzt]; exact zb0 hzl_36 c_38))).symm
              rw [← hE] at hKd hVd hNd
              rw [← hp7] at hVd
              refine lv_aload_n hx hb dX10_number_123 rfl (lv_at hl 1 rfl) ?_
              refine va_get (D := (dC, dI)) (ci := 10) (v := .int l22) (C := RX10) (T := TX10) (N := 51) hx hb hts inw_X10_number_10 hown hK hP 0 rfl rfl 22 (by decide) (hts (.fieldLink RX10 168 "VatHouseModel" "at" "I") (List.mem_of_getElem? (i := 1) (by exact rfl))) (fun _ h9 => h9) rfl dX10_number_124 ?_
              refine lv_iload_n hx hb dX10_number_127 rfl (lv_at hl 0 rfl) ?_
              refine lv_isub hx hb dX10_number_128 ?_
              refine lv_topi (fun z_39 ez_39 => ?_)
              refine lv_iconst (v := 4) hx hb dX10_number_129 (by decide) ?_
              refine lv_icmp_gt (tgt := 149) hx hb dX10_number_130 (by decide) (fun c_40 => ?_) (fun c_40 => ?_)
              · have nc_40 := lt_i c_40
                have lc_40 : (4 : Int32).toInt = 4 := by decide
                refine lv_aload_n hx hb dX10_number_149 rfl (lv_at hl 1 rfl) ?_
                refine lv_iconst (v := 2) hx hb dX10_number_150 (by decide) ?_
                refine lv_iload_n hx hb dX10_number_151 rfl (lv_at hl 0 rfl) ?_
                refine M_V ⟨hx, hb, hml, hown, hts⟩ (m_X10_wrong l dC dI sa g h0 b (va_up (va_up i 22 l22) 25 l25) a (2 : Int32) x22_1 _ (hmq_3).1) (cwV 2 hts gX10_number_X10_wrong rfl rfl rfl (by decide +kernel) ⟨Nat.le_of_ble_eq_true rfl, Nat.le_of_ble_eq_true rfl⟩) hP hD hK hS hA hev rfl rfl rfl rfl hl.1 rfl (Nat.le_of_ble_eq_true rfl) dX10_number_152 ⟨(Nat.le_of_ble_eq_true rfl), (Nat.le_of_ble_eq_true rfl)⟩ (fun r u H locs hw hP hD hS => ?_)
                obtain ⟨x23_41, x24_42⟩ := u
                have hw : ((r = some (.int 0) ∧ (x23_41 = (2 : Int32) ∧ x24_42 = x22_1)) ∨ (r = some (.int 1) ∧ (False))) ∧ (True) := hw
                obtain ⟨⟨rfl, hz2_44⟩ | ⟨rfl, hz2_44⟩, hw_43⟩ := hw
                · have hP : va_P (dC, dI) vwCl (mw g h0 b (va_up (va_up (va_up (va_up i 22 l22) 23 x23_41) 24 x24_42) 25 l25) a) _ := hP
                  have hD : va_D _ (mw g h0 b (va_up (va_up (va_up (va_up i 22 l22) 23 x23_41) 24 x24_42) 25 l25) a) := hD
                  refine W.eq (g2 := F0 m 155 ls [.int 0]) rfl ?_
                  refine lv_if_eq (tgt := 162) hx hb dX10_number_155 (by decide) (fun _ => ?_) (fun c_45 => absurd c_45 (by decide))
                  refine lv_iconst (v := 0) hx hb dX10_number_162 (by decide) ?_
                  exact M_z hx hb hr rfl hlocks (l22, x23_41, x24_42, l25) hP hD hK hS ⟨Or.inl ⟨rfl, (hmq_3).num2 (Or.inl (by rw [hKd]; exact if_pos (d4_gt hp2 (by omega) hp1 hw_2 ez_39 c_40))) hz2_44.1 (hz2_44.2.trans hw_2)⟩, trivial⟩ (Nat.le_of_ble_eq_true rfl) (Nat.le_of_ble_eq_true rfl) dX10_number_163
                · have hP : va_P (dC, dI) vwCl (mw g h0 b (va_up (va_up (va_up (va_up i 22 l22) 23 x23_41) 24 x24_42) 25 l25) a) _ := hP
                  have hD : va_D _ (mw g h0 b (va_up (va_up (va_up (va_up i 22 l22) 23 x23_41) 24 x24_42) 25 l25) a) := hD
                  refine W.eq (g2 := F0 m 155 ls [.int 1]) rfl ?_
                  exact hz2_44.elim
              · have nc_40 := nlt_i c_40
                have lc_40 : (4 : Int32).toInt = 4 := by decide
                refine lv_aload_n hx hb dX10_number_133 rfl (lv_at hl 1 rfl) ?_
                refine va_get (D := (dC, dI)) (ci := 10) (v := .int l25) (C := RX10) (T := TX10) (N := 51) hx hb hts inw_X10_number_10 hown hK hP 0 rfl rfl 25 (by decide) (hts (.fieldLink RX10 243 "VatHouseModel" "value" "I") (List.mem_of_getElem? (i := 4) (by exact rfl))) (fun _ h9 => h9) rfl dX10_number_134 ?_
                refine lv_iload_n hx hb dX10_number_137 rfl (lv_at hl 2 rfl) ?_
                refine lv_icmp_lt (tgt := 149) hx hb dX10_number_138 (by decide) (fun c_46 => ?_) (fun c_46 => ?_)
                · have nc_46 := lt_i c_46
                  refine lv_aload_n hx hb dX10_number_149 rfl (lv_at hl 1 rfl) ?_
                  refine lv_iconst (v := 2) hx hb dX10_number_150 (by decide) ?_
                  refine lv_iload_n hx hb dX10_number_151 rfl (lv_at hl 0 rfl) ?_
                  refine M_V ⟨hx, hb, hml, hown, hts⟩ (m_X10_wrong l dC dI sa g h0 b (va_up (va_up i 22 l22) 25 l25) a (2 : Int32) x22_1 _ (hmq_3).1) (cwV 2 hts gX10_number_X10_wrong rfl rfl rfl (by decide +kernel) ⟨Nat.le_of_ble_eq_true rfl, Nat.le_of_ble_eq_true rfl⟩) hP hD hK hS hA hev rfl rfl rfl rfl hl.1 rfl (Nat.le_of_ble_eq_true rfl) dX10_number_152 ⟨(Nat.le_of_ble_eq_true rfl), (Nat.le_of_ble_eq_true rfl)⟩ (fun r u H locs hw hP hD hS => ?_)
                  obtain ⟨x23_47, x24_48⟩ := u
                  have hw : ((r = some (.int 0) ∧ (x23_47 = (2 : Int32) ∧ x24_48 = x22_1)) ∨ (r = some (.int 1) ∧ (False))) ∧ (True) := hw
                  obtain ⟨⟨rfl, hz2_50⟩ | ⟨rfl, hz2_50⟩, hw_49⟩ := hw
                  · have hP : va_P (dC, dI) vwCl (mw g h0 b (va_up (va_up (va_up (va_up i 22 l22) 23 x23_47) 24 x24_48) 25 l25) a) _ := hP
                    have hD : va_D _ (mw g h0 b (va_up (va_up (va_up (va_up i 22 l22) 23 x23_47) 24 x24_48) 25 l25) a) := hD
                    refine W.eq (g2 := F0 m 155 ls [.int 0]) rfl ?_
                    refine lv_if_eq (tgt := 162) hx hb dX10_number_155 (by decide) (fun _ => ?_) (fun c_51 => absurd c_51 (by decide))
                    refine lv_iconst (v := 0) hx hb dX10_number_162 (by decide) ?_
                    exact M_z hx hb hr rfl hlocks (l22, x23_47, x24_48, l25) hP hD hK hS ⟨Or.inl ⟨rfl, (hmq_3).num2 (Or.inr ⟨(by rw [hKd]; exact if_neg (d4_le hp2 (by omega) hp1 hw_2 ez_39 c_40)), Or.inl (by rw [hVd]; exact c_46)⟩) hz2_50.1 (hz2_50.2.trans hw_2)⟩, trivial⟩ (Nat.le_of_ble_eq_true rfl) (Nat.le_of_ble_eq_true rfl) dX10_number_163
                  · have hP : va_P (dC, dI) vwCl (mw g h0 b (va_up (va_up (va_up (va_up i 22 l22) 23 x23_47) 24 x24_48) 25 l25) a) _ := hP
                    have hD : va_D _ (mw g h0 b (va_up (va_up (va_up (va_up i 22 l22) 23 x23_47) 24 x24_48) 25 l25) a) := hD
                    refine W.eq (g2 := F0 m 155 ls [.int 1]) rfl ?_
                    exact hz2_50.elim
                · have nc_46 := nlt_i c_46
                  refine lv_aload_n hx hb dX10_number_141 rfl (lv_at hl 1 rfl) ?_
                  refine va_get (D := (dC, dI)) (ci := 10) (v := .int l25) (C := RX10) (T := TX10) (N := 51) hx hb hts inw_X10_number_10 hown hK hP 0 rfl rfl 25 (by decide) (hts (.fieldLink RX10 243 "VatHouseModel" "value" "I") (List.mem_of_getElem? (i := 4) (by exact rfl))) (fun _ h9 => h9) rfl dX10_number_142 ?_
                  refine lv_iload_n hx hb dX10_number_145 rfl (lv_at hl 3 rfl) ?_
                  refine lv_icmp_le (tgt := 158) hx hb dX10_number_146 (by decide) (fun c_52 => ?_) (fun c_52 => ?_)
                  · have nc_52 := le_i c_52
                    refine lv_iconst (v := 1) hx hb dX10_number_158 (by decide) ?_
                    refine lv_goto (tgt := 163) hx hb dX10_number_159 (by decide) ?_
                    exact M_z hx hb hr rfl hlocks (l22, (i 23), (i 24), l25) hP hD hK hS ⟨Or.inr ⟨rfl, ⟨(hmq_3).num3 (by rw [hKd]; exact if_neg (d4_le hp2 (by omega) hp1 hw_2 ez_39 c_40)) hdq (by rw [hVd]; exact c_46) (by rw [hVd]; exact nlt_of_le c_52) (by rw [hNd]; exact hp1), hVd.symm, by rw [hVd]; exact nlt_i c_46, by rw [hVd]; exact le_i c_52⟩⟩, trivial⟩ (Nat.le_of_ble_eq_true rfl) (Nat.le_of_ble_eq_true rfl) dX10_number_163
                  · have nc_52 := nle_i c_52
                    refine lv_aload_n hx hb dX10_number_149 rfl (lv_at hl 1 rfl) ?_
                    refine lv_iconst (v := 2) hx hb dX10_number_150 (by decide) ?_
                    refine lv_iload_n hx hb dX10_number_151 rfl (lv_at hl 0 rfl) ?_
                    refine M_V ⟨hx, hb, hml, hown, hts⟩ (m_X10_wrong l dC dI sa g h0 b (va_up (va_up i 22 l22) 25 l25) a (2 : Int32) x22_1 _ (hmq_3).1) (cwV 2 hts gX10_number_X10_wrong rfl rfl rfl (by decide +kernel) ⟨Nat.le_of_ble_eq_true rfl, Nat.le_of_ble_eq_true rfl⟩) hP hD hK hS hA hev rfl rfl rfl rfl hl.1 rfl (Nat.le_of_ble_eq_true rfl) dX10_number_152 ⟨(Nat.le_of_ble_eq_true rfl), (Nat.le_of_ble_eq_true rfl)⟩ (fun r u H locs hw hP hD hS => ?_)
                    obtain ⟨x23_53, x24_54⟩ := u
                    have hw : ((r = some (.int 0) ∧ (x23_53 = (2 : Int32) ∧ x24_54 = x22_1)) ∨ (r = some (.int 1) ∧ (False))) ∧ (True) := hw
                    obtain ⟨⟨rfl, hz2_56⟩ | ⟨rfl, hz2_56⟩, hw_55⟩ := hw
                    · have hP : va_P (dC, dI) vwCl (mw g h0 b (va_up (va_up (va_up (va_up i 22 l22) 23 x23_53) 24 x24_54) 25 l25) a) _ := hP
                      have hD : va_D _ (mw g h0 b (va_up (va_up (va_up (va_up i 22 l22) 23 x23_53) 24 x24_54) 25 l25) a) := hD
                      refine W.eq (g2 := F0 m 155 ls [.int 0]) rfl ?_
                      refine lv_if_eq (tgt := 162) hx hb dX10_number_155 (by decide) (fun _ => ?_) (fun c_57 => absurd c_57 (by decide))
                      refine lv_iconst (v := 0) hx hb dX10_number_162 (by decide) ?_
                      exact M_z hx hb hr rfl hlocks (l22, x23_53, x24_54, l25) hP hD hK hS ⟨Or.inl ⟨rfl, (hmq_3).num2 (Or.inr ⟨(by rw [hKd]; exact if_neg (d4_le hp2 (by omega) hp1 hw_2 ez_39 c_40)), Or.inr (by rw [hVd]; exact nle_lt c_52)⟩) hz2_56.1 (hz2_56.2.trans hw_2)⟩, trivial⟩ (Nat.le_of_ble_eq_true rfl) (Nat.le_of_ble_eq_true rfl) dX10_number_163
                    · have hP : va_P (dC, dI) vwCl (mw g h0 b (va_up (va_up (va_up (va_up i 22 l22) 23 x23_53) 24 x24_54) 25 l25) a) _ := hP
                      have hD : va_D _ (mw g h0 b (va_up (va_up (va_up (va_up i 22 l22) 23 x23_53) 24 x24_54) 25 l25) a) := hD
                      refine W.eq (g2 := F0 m 155 ls [.int 1]) rfl ?_
                      exact hz2_56.elim
            · have nc_38 := ne_i c_38
              have lc_38 : (0 : Int32).toInt = 0 := by decide
              refine lv_aload_n hx hb dX10_number_76 rfl (lv_at hl 1 rfl) ?_
              refine va_get (D := (dC, dI)) (ci := 10) (v := .int l22) (C := RX10) (T := TX10) (N := 51) hx hb hts inw_X10_number_10 hown hK hP 0 rfl rfl 22 (by decide) (hts (.fieldLink RX10 168 "VatHouseModel" "at" "I") (List.mem_of_getElem? (i := 1) (by exact rfl))) (fun _ h9 => h9) rfl dX10_number_77 ?_
              refine lv_iload_n hx hb dX10_number_80 rfl (lv_at hl 0 rfl) ?_
              refine lv_isub hx hb dX10_number_81 ?_
              refine lv_topi (fun z_58 ez_58 => ?_)
              refine lv_iconst (v := 4) hx hb dX10_number_82 (by decide) ?_
              refine lv_icmp_ge (tgt := 110) hx hb dX10_number_83 (by decide) (fun c_59 => ?_) (fun c_59 => ?_)
              · have nc_59 := le_i c_59
                have lc_59 : (4 : Int32).toInt = 4 := by decide
                refine lv_aload_n hx hb dX10_number_110 rfl (lv_at hl 1 rfl) ?_
                refine lv_dup hx hb dX10_number_111 rfl ?_
                refine va_get (D := (dC, dI)) (ci := 10) (v := .int l22) (C := RX10) (T := TX10) (N := 51) hx hb hts inw_X10_number_10 hown hK hP 0 rfl rfl 22 (by decide) (hts (.fieldLink RX10 168 "VatHouseModel" "at" "I") (List.mem_of_getElem? (i := 1) (by exact rfl))) (fun _ h9 => h9) rfl dX10_number_112 ?_
                refine lv_iconst (v := 1) hx hb dX10_number_115 (by decide) ?_
                refine lv_iadd hx hb dX10_number_116 ?_
                refine lv_topi (fun z_60 ez_60 => ?_)
                refine va_put (D := (dC, dI)) (ci := 10) (v := .int z_60) (ty := .int) (C := RX10) (T := TX10) (N := 51) hx hb hts inw_X10_number_10 tyX10 tyX10_ok nmX10 hown hK hP hD hS 0 rfl rfl 22 (by decide) (hts (.fieldLink RX10 168 "VatHouseModel" "at" "I") (List.mem_of_getElem? (i := 1) (by exact rfl))) (fun _ h9 => h9) rfl (tyX10_ok 22 (by decide)) rfl rfl (Nat.le_of_ble_eq_true rfl) dX10_number_117 (fun H locs hP hD hS => ?_)
                have hP : va_P (dC, dI) vwCl (mw g h0 b (va_up (va_up i 22 z_60) 25 l25) a) _ := hP
                have hD : va_D _ (mw g h0 b (va_up (va_up i 22 z_60) 25 l25) a) := hD
                refine lv_goto (tgt := 50) hx hb dX10_number_120 (by decide) ?_
                exact ih z_60 l25 _ _ _ (⟨p1 + 1, by rw [ez_60, hp1]; exact nI_1 p1, by omega, by omega, by omega, by rw [← hp5]; exact (re_go (Q := fun x => isD ((a 19) x)) hp6 (by show isD ((a 19) p1) = true; rw [← hzt]; exact zb1 hzl_36 c_38)).symm, dg_st (d4_ge hp2 (by omega) hp1 hw_2 ez_58 c_59) hp7⟩)  hP hD hS (lv_sub hl [0, 1, 2, 3] rfl)
              · have nc_59 := nle_i c_59
                have lc_59 : (4 : Int32).toInt = 4 := by decide
                refine lv_aload_n hx hb dX10_number_86 rfl (lv_at hl 1 rfl) ?_
                refine lv_bipush (v := 10) hx hb dX10_number_87 (by decide) ?_
                refine lv_aload_n hx hb dX10_number_89 rfl (lv_at hl 1 rfl) ?_
                refine va_get (D := (dC, dI)) (ci := 10) (v := .int l25) (C := RX10) (T := TX10) (N := 51) hx hb hts inw_X10_number_10 hown hK hP 0 rfl rfl 25 (by decide) (hts (.fieldLink RX10 243 "VatHouseModel" "value" "I") (List.mem_of_getElem? (i := 4) (by exact rfl))) (fun _ h9 => h9) rfl dX10_number_90 ?_
                refine lv_imul hx hb dX10_number_93 ?_
                refine lv_topi (fun z_61 ez_61 => ?_)
                refine lv_aload_n hx hb dX10_number_94 rfl (lv_at hl 1 rfl) ?_
                refine va_get (D := (dC, dI)) (ci := 10) (v := .ref (b 19)) (C := RX10) (T := TX10) (N := 51) hx hb hts inw_X10_number_10 hown hK hP 0 rfl rfl 19 (by decide) (hts (.fieldLink RX10 53 "VatHouseModel" "tape" "[I") (List.mem_of_getElem? (i := 3) (by exact rfl))) (fun _ h9 => h9) rfl dX10_number_95 ?_
                refine lv_aload_n hx hb dX10_number_98 rfl (lv_at hl 1 rfl) ?_
                refine va_get (D := (dC, dI)) (ci := 10) (v := .int l22) (C := RX10) (T := TX10) (N := 51) hx hb hts inw_X10_number_10 hown hK hP 0 rfl rfl 22 (by decide) (hts (.fieldLink RX10 168 "VatHouseModel" "at" "I") (List.mem_of_getElem? (i := 1) (by exact rfl))) (fun _ h9 => h9) rfl dX10_number_99 ?_
                refine va_iald hx hb hK hP 15 14 rfl rfl (by rw [hp1]; exact vp_in_nI (by have := hL.2; omega) (by decide)) dX10_number_102 ?_
                refine lv_topi (fun z_62 ez_62 => ?_)
                have ez_62 : z_62 = (a 19) l22.toNatClampNeg := ez_62
                refine lv_iadd hx hb dX10_number_103 ?_
                refine lv_topi (fun z_63 ez_63 => ?_)
                refine lv_bipush (v := 48) hx hb dX10_number_104 (by decide) ?_
                refine lv_isub hx hb dX10_number_106 ?_
                refine lv_topi (fun z_64 ez_64 => ?_)
                refine va_put (D := (dC, dI)) (ci := 10) (v := .int z_64) (ty := .int) (C := RX10) (T := TX10) (N := 51) hx hb hts inw_X10_number_10 tyX10 tyX10_ok nmX10 hown hK hP hD hS 0 rfl rfl 25 (by decide) (hts (.fieldLink RX10 243 "VatHouseModel" "value" "I") (List.mem_of_getElem? (i := 4) (by exact rfl))) (fun _ h9 => h9) rfl (tyX10_ok 25 (by decide)) rfl rfl (Nat.le_of_ble_eq_true rfl) dX10_number_107 (fun H locs hP hD hS => ?_)
                have hP : va_P (dC, dI) vwCl (mw g h0 b (va_up (va_up i 22 l22) 25 z_64) a) _ := hP
                have hD : va_D _ (mw g h0 b (va_up (va_up i 22 l22) 25 z_64) a) := hD
                refine lv_aload_n hx hb dX10_number_110 rfl (lv_at hl 1 rfl) ?_
                refine lv_dup hx hb dX10_number_111 rfl ?_
                refine va_get (D := (dC, dI)) (ci := 10) (v := .int l22) (C := RX10) (T := TX10) (N := 51) hx hb hts inw_X10_number_10 hown hK hP 0 rfl rfl 22 (by decide) (hts (.fieldLink RX10 168 "VatHouseModel" "at" "I") (List.mem_of_getElem? (i := 1) (by exact rfl))) (fun _ h9 => h9) rfl dX10_number_112 ?_
                refine lv_iconst (v := 1) hx hb dX10_number_115 (by decide) ?_
                refine lv_iadd hx hb dX10_number_116 ?_
                refine lv_topi (fun z_65 ez_65 => ?_)
                refine va_put (D := (dC, dI)) (ci := 10) (v := .int z_65) (ty := .int) (C := RX10) (T := TX10) (N := 51) hx hb hts inw_X10_number_10 tyX10 tyX10_ok nmX10 hown hK hP hD hS 0 rfl rfl 22 (by decide) (hts (.fieldLink RX10 168 "VatHouseModel" "at" "I") (List.mem_of_getElem? (i := 1) (by exact rfl))) (fun _ h9 => h9) rfl (tyX10_ok 22 (by decide)) rfl rfl (Nat.le_of_ble_eq_true rfl) dX10_number_117 (fun H locs hP hD hS => ?_)
                have hP : va_P (dC, dI) vwCl (mw g h0 b (va_up (va_up i 22 z_65) 25 z_64) a) _ := hP
                have hD : va_D _ (mw g h0 b (va_up (va_up i 22 z_65) 25 z_64) a) := hD
                refine lv_goto (tgt := 50) hx hb dX10_number_120 (by decide) ?_
                exact ih z_65 z_64 _ _ _ (⟨p1 + 1, by rw [ez_65, hp1]; exact nI_1 p1, by omega, by omega, by omega, by rw [← hp5]; exact (re_go (Q := fun x => isD ((a 19) x)) hp6 (by show isD ((a 19) p1) = true; rw [← hzt]; exact zb1 hzl_36 c_38)).symm, dgm_go hp2 (d4_lt hp2 (by omega) hp1 hw_2 ez_58 c_59) hp7 (ld_at ez_62 hp1 (by omega)) ez_61 ez_63 ez_64⟩)  hP hD hS (lv_sub hl [0, 1, 2, 3] rfl)
      exact lp (ln + 1) x22_1 (0 : Int32) _ _ _ (⟨sq.1, hw_2, Nat.le_refl _, hM.q.1, by omega, rfl, by rw [Nat.sub_self]; rfl⟩)  hP hD hS (lv_sub hl [0, 1, 2, 3] rfl)
    · have nc_13 := eq_i c_13
      have lc_13 : (0 : Int32).toInt = 0 := by decide
      have hnd9 : ¬ (sq.1 < ln ∧ isD ((a 19) sq.1) = true) := fun h9 => by have g9 := zb0 hzl_11 c_13; rw [(ld_at ez_9 hw_2 (by have := (hmq_3).q.1; have := hL.2; omega)), h9.2] at g9; exact absurd g9 (by decide)
      refine lv_aload_n hx hb dX10_number_35 rfl (lv_at hl 1 rfl) ?_
      refine lv_iconst (v := 1) hx hb dX10_number_36 (by decide) ?_
      refine lv_aload_n hx hb dX10_number_37 rfl (lv_at hl 1 rfl) ?_
      refine va_get (D := (dC, dI)) (ci := 10) (v := .int x22_1) (C := RX10) (T := TX10) (N := 51) hx hb hts inw_X10_number_10 hown hK hP 0 rfl rfl 22 (by decide) (hts (.fieldLink RX10 168 "VatHouseModel" "at" "I") (List.mem_of_getElem? (i := 1) (by exact rfl))) (fun _ h9 => h9) rfl dX10_number_38 ?_
      refine M_V ⟨hx, hb, hml, hown, hts⟩ (m_X10_wrong l dC dI sa g h0 b (va_up i 22 x22_1) a (1 : Int32) x22_1 _ (hmq_3).1) (cwV 2 hts gX10_number_X10_wrong rfl rfl rfl (by decide +kernel) ⟨Nat.le_of_ble_eq_true rfl, Nat.le_of_ble_eq_true rfl⟩) hP hD hK hS hA hev rfl rfl rfl rfl hl.1 rfl (Nat.le_of_ble_eq_true rfl) dX10_number_41 ⟨(Nat.le_of_ble_eq_true rfl), (Nat.le_of_ble_eq_true rfl)⟩ (fun r u H locs hw hP hD hS => ?_)
      obtain ⟨x23_66, x24_67⟩ := u
      have hw : ((r = some (.int 0) ∧ (x23_66 = (1 : Int32) ∧ x24_67 = x22_1)) ∨ (r = some (.int 1) ∧ (False))) ∧ (True) := hw
      obtain ⟨⟨rfl, hz2_69⟩ | ⟨rfl, hz2_69⟩, hw_68⟩ := hw
      · have hP : va_P (dC, dI) vwCl (mw g h0 b (va_up (va_up (va_up i 22 x22_1) 23 x23_66) 24 x24_67) a) _ := hP
        have hD : va_D _ (mw g h0 b (va_up (va_up (va_up i 22 x22_1) 23 x23_66) 24 x24_67) a) := hD
        refine W.eq (g2 := F0 m 44 ls [.int 0]) rfl ?_
        exact M_z hx hb hr rfl hlocks (x22_1, x23_66, x24_67, (i 25)) hP hD hK hS ⟨Or.inl ⟨rfl, (hmq_3).num1 hnd9 hz2_69.1 (hz2_69.2.trans hw_2)⟩, trivial⟩ (Nat.le_of_ble_eq_true rfl) (Nat.le_of_ble_eq_true rfl) dX10_number_44
      · have hP : va_P (dC, dI) vwCl (mw g h0 b (va_up (va_up (va_up i 22 x22_1) 23 x23_66) 24 x24_67) a) _ := hP
        have hD : va_D _ (mw g h0 b (va_up (va_up (va_up i 22 x22_1) 23 x23_66) 24 x24_67) a) := hD
        refine W.eq (g2 := F0 m 44 ls [.int 1]) rfl ?_
        exact hz2_69.elim

noncomputable abbrev rm_X10_single : Room := { frames := 2, cells := 0, slots := 0, locals := 45 }
theorem inw_X10_single_10 : ∀ w ∈ wsX100, w ∈ wsX10_single := fun _ h => List.mem_cons_of_mem _ (List.mem_append_right _ h)
set_option maxHeartbeats 1000000 in
set_option maxRecDepth 100000 in
theorem m_X10_single (l : Launch) (dC : Nat → ClassId) (dI : Nat → Nat → Nat) (sa : Nat → Nat) (g : Nat → Nat) (h0 : Nat) (b : Nat → Nat) (ln : Nat) (sq : SG) (i : Nat → Int32) (a : Nat → Nat → Int32) (kk : Int32) (lo : Int32) (hi : Int32) (sz : Nat) (hL : (i 21) = nI ln ∧ ln ≤ 1500) (hM : MI (a 19) ln sq (i 22) (i 23) (i 24)) (hk : vp_in kk 2700) : CT l dC dI sa yX10_single wsX10_single rm_X10_single [.ref h0, .int kk, .int lo, .int hi] (mw g h0 b i a) (tyM g) sz (fun (r : Option Value) (u : Int32 × Int32 × Int32 × Int32 × (Nat → Int32)) => match u with | (x22, x23, x24, x25, y27) => ((r = some (.int 0) ∧ (MO (gnu (Kp (a 19) ln) (Vp (a 19) ln) (nq (a 19) ln) lo hi sq) x23 x24 ∧ y27 = (a 27))) ∨ (r = some (.int 1) ∧ (MI (a 19) ln (gnu (Kp (a 19) ln) (Vp (a 19) ln) (nq (a 19) ln) lo hi sq) x22 x23 x24 ∧ lo.toInt ≤ (Vp (a 19) ln sq.1).toInt ∧ (Vp (a 19) ln sq.1).toInt ≤ hi.toInt ∧ y27 = upd (a 27) kk.toNatClampNeg (Vp (a 19) ln sq.1)))) ∧ (True)) (fun (u : Int32 × Int32 × Int32 × Int32 × (Nat → Int32)) => match u with | (x22, x23, x24, x25, y27) => mw g h0 b (va_up (va_up (va_up (va_up i 22 x22) 23 x23) 24 x24) 25 x25) (va_up a 27 y27)) (fun _ => []) 0 0 := by
  refine CT.start (cc := cX10_single) (maxL := 4) (ret := (some .boolean)) (by decide) rfl (Nat.le_of_ble_eq_true rfl) ?_
  intro p e s m below meth c ls hst hP hK hD hev hS hl
  obtain ⟨hx, hb, hr, hml, hts, hown, hlocks, hin⟩ := hst
  have hown : s.vm.findClass RX10 = some m.cls := hown
  have hA : ∀ q : Nat, s.heap.size ≤ q → va_A (mw g h0 b i a) s.heap.size q := fun _ h => Or.inr h
  have hl : lv_has ls 4 [(0, .ref h0), (1, .int kk), (2, .int lo), (3, .int hi)] := hl
  refine lv_aload_n hx hb dX10_single_0 rfl (lv_at hl 0 rfl) ?_
  refine lv_iload_n hx hb dX10_single_1 rfl (lv_at hl 2 rfl) ?_
  refine lv_iload_n hx hb dX10_single_2 rfl (lv_at hl 3 rfl) ?_
  refine M_V ⟨hx, hb, hml, hown, hts⟩ (m_X10_number l dC dI sa g h0 b ln sq i a lo hi _ hL hM) (cwV 2 hts gX10_single_X10_number rfl rfl rfl (by decide +kernel) ⟨Nat.le_of_ble_eq_true rfl, Nat.le_of_ble_eq_true rfl⟩) hP hD hK hS hA hev rfl rfl rfl rfl hl.1 rfl (Nat.le_of_ble_eq_true rfl) dX10_single_3 ⟨(Nat.le_of_ble_eq_true rfl), (Nat.le_of_ble_eq_true rfl)⟩ (fun r u H locs hw hP hD hS => ?_)
  obtain ⟨x22_1, x23_2, x24_3, x25_4⟩ := u
  have hw : ((r = some (.int 0) ∧ (MO (gnu (Kp (a 19) ln) (Vp (a 19) ln) (nq (a 19) ln) lo hi sq) x23_2 x24_3)) ∨ (r = some (.int 1) ∧ (MI (a 19) ln (gnu (Kp (a 19) ln) (Vp (a 19) ln) (nq (a 19) ln) lo hi sq) x22_1 x23_2 x24_3 ∧ x25_4 = (Vp (a 19) ln sq.1) ∧ lo.toInt ≤ (Vp (a 19) ln sq.1).toInt ∧ (Vp (a 19) ln sq.1).toInt ≤ hi.toInt))) ∧ (True) := hw
  obtain ⟨⟨rfl, hz2_6⟩ | ⟨rfl, hz2_6⟩, hw_5⟩ := hw
  · have hP : va_P (dC, dI) vwCl (mw g h0 b (va_up (va_up (va_up (va_up i 22 x22_1) 23 x23_2) 24 x24_3) 25 x25_4) a) _ := hP
    have hD : va_D _ (mw g h0 b (va_up (va_up (va_up (va_up i 22 x22_1) 23 x23_2) 24 x24_3) 25 x25_4) a) := hD
    refine W.eq (g2 := F0 m 6 ls [.int 0]) rfl ?_
    refine lv_if_ne (tgt := 11) hx hb dX10_single_6 (by decide) (fun c_7 => absurd c_7 (by decide)) (fun _ => ?_)
    refine lv_iconst (v := 0) hx hb dX10_single_9 (by decide) ?_
    exact M_z hx hb hr rfl hlocks (x22_1, x23_2, x24_3, x25_4, (a 27)) hP hD hK hS ⟨Or.inl ⟨rfl, ⟨hz2_6, rfl⟩⟩, trivial⟩ (Nat.le_of_ble_eq_true rfl) (Nat.le_of_ble_eq_true rfl) dX10_single_10
  · have hP : va_P (dC, dI) vwCl (mw g h0 b (va_up (va_up (va_up (va_up i 22 x22_1) 23 x23_2) 24 x24_3) 25 x25_4) a) _ := hP
    have hD : va_D _ (mw g h0 b (va_up (va_up (va_up (va_up i 22 x22_1) 23 x23_2) 24 x24_3) 25 x25_4) a) := hD
    refine W.eq (g2 := F0 m 6 ls [.int 1]) rfl ?_
    have hmq_8 : MI (a 19) ln (gnu (Kp (a 19) ln) (Vp (a 19) ln) (nq (a 19) ln) lo hi sq) x22_1 x23_2 x24_3 := hz2_6.1
    refine lv_if_ne (tgt := 11) hx hb dX10_single_6 (by decide) (fun _ => ?_) (fun c_9 => absurd c_9 (by decide))
    refine lv_aload_n hx hb dX10_single_11 rfl (lv_at hl 0 rfl) ?_
    refine va_get (D := (dC, dI)) (ci := 10) (v := .ref (b 27)) (C := RX10) (T := TX10) (N := 51) hx hb hts inw_X10_single_10 hown hK hP 0 rfl rfl 27 (by decide) (hts (.fieldLink RX10 63 "VatHouseModel" "one" "[I") (List.mem_of_getElem? (i := 1) (by exact rfl))) (fun _ h9 => h9) rfl dX10_single_12 ?_
    refine lv_iload_n hx hb dX10_single_15 rfl (lv_at hl 1 rfl) ?_
    refine lv_aload_n hx hb dX10_single_16 rfl (lv_at hl 0 rfl) ?_
    refine va_get (D := (dC, dI)) (ci := 10) (v := .int x25_4) (C := RX10) (T := TX10) (N := 51) hx hb hts inw_X10_single_10 hown hK hP 0 rfl rfl 25 (by decide) (hts (.fieldLink RX10 243 "VatHouseModel" "value" "I") (List.mem_of_getElem? (i := 2) (by exact rfl))) (fun _ h9 => h9) rfl dX10_single_17 ?_
    refine va_iast hx hb hK hP hD hS 17 16 rfl rfl (by assumption) dX10_single_20 (fun H locs hP hD hS => ?_)
    have hP : va_P (dC, dI) vwCl (mw g h0 b (va_up (va_up (va_up (va_up i 22 x22_1) 23 x23_2) 24 x24_3) 25 x25_4) (va_up a 27 (upd (a 27) kk.toNatClampNeg x25_4))) _ := hP
    have hD : va_D _ (mw g h0 b (va_up (va_up (va_up (va_up i 22 x22_1) 23 x23_2) 24 x24_3) 25 x25_4) (va_up a 27 (upd (a 27) kk.toNatClampNeg x25_4))) := hD
    obtain ⟨f_10, ef_10⟩ : ∃ z, z = (upd (a 27) kk.toNatClampNeg x25_4) := ⟨_, rfl⟩
    rw [← ef_10] at hP hD
    refine lv_iconst (v := 1) hx hb dX10_single_21 (by decide) ?_
    exact M_z hx hb hr rfl hlocks (x22_1, x23_2, x24_3, x25_4, f_10) hP hD hK hS ⟨Or.inr ⟨rfl, ⟨hmq_8, hz2_6.2.2.1, hz2_6.2.2.2, by rw [ef_10, hz2_6.2.1]⟩⟩, trivial⟩ (Nat.le_of_ble_eq_true rfl) (Nat.le_of_ble_eq_true rfl) dX10_single_22

theorem inw_X10_numbers_10 : ∀ w ∈ wsX100, w ∈ wsX10_numbers := fun _ h => List.mem_cons_of_mem _ (List.mem_append_right _ h)

section TEST
variable {tt : Nat → Int32} {ln : Nat} {r : SG} {x22 x23 x24 y z w : Int32}
theorem gte_no {K V : Nat → Int32} {N : Nat → Nat} (h0 : r.2.2.1 = 0) (h : K r.1 < 15 ∨ 19 < K r.1) : gte K V N r = gfl 1 r := by
  have hf : ¬ (gfl 1 r).2.2.1 = 0 := by show ¬ (1 : Int32) = 0; decide
  have e1 : gte1 K N r = gfl 1 r := by
    unfold gte1 grf
    rw [if_pos h, if_pos h0, gpa_fx hf]
  unfold gte
  rw [e1]
  unfold gte2 gte3
  rw [gnu_fx hf, ite_self, gpa_fx hf, gnu_fx hf]
theorem MI.te0 (h : MI tt ln r x22 x23 x24) (hw : w = cm (Kp tt ln r.1)) (hc : w < 14) (hy : y = 1) (hz : z = nI r.1) : MO (gte (Kp tt ln) (Vp tt ln) (nq tt ln) r) y z := by
  have hk : Kp tt ln r.1 < 15 ∨ 19 < Kp tt ln r.1 := by
    have h2 := cm_i (Kp tt ln r.1)
    rw [hw, Int32.lt_iff_toInt_lt] at hc
    rw [Int32.lt_iff_toInt_lt, Int32.lt_iff_toInt_lt]
    have e14 : (14 : Int32).toInt = 14 := by decide
    have e15 : (15 : Int32).toInt = 15 := by decide
    have e19 : (19 : Int32).toInt = 19 := by decide
    omega
  rw [gte_no h.2.1 hk]
  exact ⟨hy, hz, by show ¬ (1 : Int32) = 0; decide, by rw [hy]; decide⟩
theorem te_k (hw : w = cm (Kp tt ln r.1)) (hc : ¬ w < 14) : ¬ (Kp tt ln r.1 < 15 ∨ 19 < Kp tt ln r.1) ∧ ¬ w = -1 ∧ (17 ≤ w ↔ Kp tt ln r.1 = 17 ∨ Kp tt ln r.1 = 18) := by
  have h2 := cm_i (Kp tt ln r.1)
  rw [hw, Int32.lt_iff_toInt_lt] at hc
  rw [hw, Int32.lt_iff_toInt_lt, Int32.lt_iff_toInt_lt, Int32.le_iff_toInt_le, ← Int32.toInt_inj, ← Int32.toInt_inj, ← Int32.toInt_inj]
  have e14 : (14 : Int32).toInt = 14 := by decide
  have e15 : (15 : Int32).toInt = 15 := by decide
  have e19 : (19 : Int32).toInt = 19 := by decide
  have e17 : (17 : Int32).toInt = 17 := by decide
  have e18 : (18 : Int32).toInt = 18 := by decide
  have em : (-1 : Int32).toInt = -1 := by decide
  omega
/-- a test, put together -/
theorem gte_c {K V : Nat → Int32} {N : Nat → Nat} {q2 : SG} {b : Int32} (h1 : ¬ (K r.1 < 15 ∨ 19 < K r.1)) (h2 : (if K r.1 = 17 ∨ K r.1 = 18 then gnu K V N 0 5 (gpa K N (K r.1) r) else gpa K N (K r.1) r) = q2) (hb : (if K q2.1 = 60 then (60 : Int32) else 61) = b) : gte K V N r = gnu K V N 0 9999 (gpa K N b q2) := by
  have e1 : gte1 K N r = gpa K N (K r.1) r := by unfold gte1; rw [if_neg h1]
  unfold gte
  rw [e1]
  unfold gte2 gte3
  rw [h2, hb]
end TEST

theorem inw_X10_test_10 : ∀ w ∈ wsX100, w ∈ wsX10_test := fun _ h => List.mem_cons_of_mem _ (List.mem_append_right _ h)
