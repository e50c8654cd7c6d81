/-! the reader of the model: nodes come, links are set -/
def PV (n : Int32) (k : Nat) : Prop := 2400 ≤ k ∧ (k : Int) < 2400 + n.toInt
def PN (n : Int32) (dp : Nat → Nat) (kd on inr oth nx : Nat → Int32) : Prop := 0 ≤ n.toInt ∧ n.toInt ≤ 300 ∧ ND (PV n) dp kd on inr oth nx
def LF (kd on inr oth nx kd' on' inr' oth' nx' : Nat → Int32) : Prop := ∀ k : Nat, k < 2400 → kd' k = kd k ∧ on' k = on k ∧ inr' k = inr k ∧ oth' k = oth k ∧ nx' k = nx k
def AG (n : Int32) (dp dp' : Nat → Nat) : Prop := ∀ k : Nat, (k : Int) < 2400 + n.toInt → dp' k = dp k
def PR (n n' : Int32) (dp dp' : Nat → Nat) (kd on inr oth nx kd' on' inr' oth' nx' : Nat → Int32) : Prop := AG n dp dp' ∧ PN n' dp' kd' on' inr' oth' nx' ∧ LF kd on inr oth nx kd' on' inr' oth' nx' ∧ n.toInt ≤ n'.toInt
section PRS
variable {n n' n'' : Int32} {dp dp' dp'' : Nat → Nat} {kd on inr oth nx kd' on' inr' oth' nx' kd'' on'' inr'' oth'' nx'' : Nat → Int32}
theorem PR.rf (h : PN n dp kd on inr oth nx) : PR n n dp dp kd on inr oth nx kd on inr oth nx := ⟨fun _ _ => rfl, h, fun _ _ => ⟨rfl, rfl, rfl, rfl, rfl⟩, Int.le_refl _⟩
theorem PR.tr (h : PR n n' dp dp' kd on inr oth nx kd' on' inr' oth' nx') (h' : PR n' n'' dp' dp'' kd' on' inr' oth' nx' kd'' on'' inr'' oth'' nx'') : PR n n'' dp dp'' kd on inr oth nx kd'' on'' inr'' oth'' nx'' := by
  refine ⟨fun k hk => (h'.1 k (by have := h.2.2.2; omega)).trans (h.1 k hk), h'.2.1, fun k hk => ?_, Int.le_trans h.2.2.2 h'.2.2.2⟩
  obtain ⟨a1, a2, a3, a4, a5⟩ := h.2.2.1 k hk
  obtain ⟨b1, b2, b3, b4, b5⟩ := h'.2.2.1 k hk
  exact ⟨b1.trans a1, b2.trans a2, b3.trans a3, b4.trans a4, b5.trans a5⟩
theorem PR.nd (h : PR n n' dp dp' kd on inr oth nx kd' on' inr' oth' nx') {q d : Nat} (hV : PV n q) (hd : dp q = d) : PV n' q ∧ dp' q = d := ⟨⟨hV.1, by have := hV.2; have := h.2.2.2; omega⟩, (h.1 q hV.2).trans hd⟩
theorem PR.lk (h : PR n n' dp dp' kd on inr oth nx kd' on' inr' oth' nx') {d : Nat} {x : Int32} (hx : lk (PV n) dp d x) : lk (PV n') dp' d x := by
  rcases hx with hx | ⟨q, h1, h2, h3⟩
  · exact Or.inl hx
  · exact Or.inr ⟨q, h1, h.nd h2 h3⟩
theorem up_hi {f : Nat → Int32} {x v : Int32} {q k : Nat} (hq : x = nI q) (hV : PV n q) (hn : n.toInt ≤ 300) (hk : k < 2400) : upd f x.toNatClampNeg v k = f k := by
  have h1 := hV.1
  have h2 := hV.2
  rw [hq, nI_clamp (by omega)]
  exact if_neg (by omega)
/-- a number of a node -/
theorem PN.set (h : PN n dp kd on inr oth nx) {q : Nat} {x lo hi : Int32} {y : Nat → Int32} (hq : x = nI q) (hV : PV n q) (hy : y = on ∨ ∃ v : Int32, lo.toInt ≤ v.toInt ∧ v.toInt ≤ hi.toInt ∧ y = upd on x.toNatClampNeg v) (hc : kd q = 0 ∨ kd q = 4 ∨ kd q = 5 ∨ kd q = 9 → 0 ≤ lo.toInt ∧ hi.toInt ≤ 5) : PR n n dp dp kd on inr oth nx kd y inr oth nx := by
  rcases hy with rfl | ⟨v, h1, h2, rfl⟩
  · exact PR.rf h
  refine ⟨fun _ _ => rfl, ⟨h.1, h.2.1, fun k hk => ?_⟩, fun k hk => ⟨rfl, up_hi hq hV h.2.1 hk, rfl, rfl, rfl⟩, Int.le_refl _⟩
  obtain ⟨g1, g2, g3, g4⟩ := h.2.2 k hk
  refine ⟨g1, g2, fun hc2 => ?_, g4⟩
  have hqc : x.toNatClampNeg = q := by rw [hq]; exact nI_clamp (by have := (h.2.2 q hV).1; omega)
  by_cases e : k = q
  · subst e
    have h3 := hc hc2
    have e2 : upd on x.toNatClampNeg v k = v := by rw [hqc]; exact if_pos rfl
    rw [e2]
    omega
  · have e2 : upd on x.toNatClampNeg v k = on k := by rw [hqc]; exact if_neg e
    rw [e2]
    exact g3 hc2
theorem up_at {f : Nat → Int32} {x v : Int32} {q : Nat} (hqc : x.toNatClampNeg = q) (k : Nat) : upd f x.toNatClampNeg v k = if k = q then v else f k := by
  rw [hqc]; rfl
theorem PN.inner (h : PN n dp kd on inr oth nx) {q : Nat} {x v : Int32} (hq : x = nI q) (hV : PV n q) (hv : lk (PV n) dp (dp q + 1) v) : PR n n dp dp kd on inr oth nx kd on (upd inr x.toNatClampNeg v) oth nx := by
  have hqc : x.toNatClampNeg = q := by rw [hq]; exact nI_clamp (by have := (h.2.2 q hV).1; omega)
  refine ⟨fun _ _ => rfl, ⟨h.1, h.2.1, fun k hk => ?_⟩, fun k hk => ⟨rfl, rfl, up_hi hq hV h.2.1 hk, rfl, rfl⟩, Int.le_refl _⟩
  obtain ⟨g1, g2, g3, g4, g5⟩ := h.2.2 k hk
  refine ⟨g1, g2, g3, ?_, g5⟩
  rw [up_at hqc]
  by_cases e : k = q
  · subst e; rw [if_pos rfl]; exact hv
  · rw [if_neg e]; exact g4
theorem PN.other (h : PN n dp kd on inr oth nx) {q : Nat} {x v : Int32} (hq : x = nI q) (hV : PV n q) (hv : lk (PV n) dp (dp q + 1) v) : PR n n dp dp kd on inr oth nx kd on inr (upd oth x.toNatClampNeg v) nx := by
  have hqc : x.toNatClampNeg = q := by rw [hq]; exact nI_clamp (by have := (h.2.2 q hV).1; omega)
  refine ⟨fun _ _ => rfl, ⟨h.1, h.2.1, fun k hk => ?_⟩, fun k hk => ⟨rfl, rfl, rfl, up_hi hq hV h.2.1 hk, rfl⟩, Int.le_refl _⟩
  obtain ⟨g1, g2, g3, g4, g5, g6⟩ := h.2.2 k hk
  refine ⟨g1, g2, g3, g4, ?_, g6⟩
  rw [up_at hqc]
  by_cases e : k = q
  · subst e; rw [if_pos rfl]; exact hv
  · rw [if_neg e]; exact g5
theorem PN.next (h : PN n dp kd on inr oth nx) {q : Nat} {x v : Int32} (hq : x = nI q) (hV : PV n q) (hv : lk (PV n) dp (dp q) v) : PR n n dp dp kd on inr oth nx kd on inr oth (upd nx x.toNatClampNeg v) := by
  have hqc : x.toNatClampNeg = q := by rw [hq]; exact nI_clamp (by have := (h.2.2 q hV).1; omega)
  refine ⟨fun _ _ => rfl, ⟨h.1, h.2.1, fun k hk => ?_⟩, fun k hk => ⟨rfl, rfl, rfl, rfl, up_hi hq hV h.2.1 hk⟩, Int.le_refl _⟩
  obtain ⟨g1, g2, g3, g4, g5, g6⟩ := h.2.2 k hk
  refine ⟨g1, g2, g3, g4, g5, ?_⟩
  rw [up_at hqc]
  by_cases e : k = q
  · subst e; rw [if_pos rfl]; exact hv
  · rw [if_neg e]; exact g6
/-- a new node -/
theorem PN.new (h : PN n dp kd on inr oth nx) {bl : Nat} (hbl : bl ≤ 8) {x z w : Int32} (hx : x = 2400 + n) (hz : z = n + 1) (hn : n.toInt ≠ 300) :
    ∃ q : Nat, x = nI q ∧ PV z q ∧ va_up dp q bl q = bl ∧ n.toInt < z.toInt ∧ PR n z dp (va_up dp q bl) kd on inr oth nx (upd kd x.toNatClampNeg w) (upd on x.toNatClampNeg 0) (upd inr x.toNatClampNeg (-1)) (upd oth x.toNatClampNeg (-1)) (upd nx x.toNatClampNeg (-1)) := by
  obtain ⟨h1, h2, h3⟩ := h
  have e1 : (1 : Int32).toInt = 1 := by decide
  have e24 : (2400 : Int32).toInt = 2400 := by decide
  have ez := add_i hz (by omega) (by omega)
  have ex := add_i hx (by omega) (by omega)
  rw [e1] at ez
  rw [e24] at ex
  obtain ⟨q, hq, hxq⟩ := nI_of (x := x) (by rw [Int32.lt_iff_toInt_lt]; have : (0 : Int32).toInt = 0 := by decide
                                            omega)
  have hqi : (q : Int) = 2400 + n.toInt := by rw [hxq, nI_toInt hq] at ex; exact ex
  have hqc : x.toNatClampNeg = q := by rw [hxq]; exact nI_clamp hq
  have hVq : PV z q := ⟨by omega, by omega⟩
  refine ⟨q, hxq, hVq, va_up_self _ _ _, by omega, fun k hk => va_up_ne _ _ (by omega), ⟨by omega, by omega, fun k hk => ?_⟩, fun k hk => ?_, by omega⟩
  · rw [up_at hqc, up_at hqc, up_at hqc, up_at hqc, up_at hqc]
    by_cases e : k = q
    · subst e
      rw [va_up_self, if_pos rfl, if_pos rfl, if_pos rfl, if_pos rfl, if_pos rfl]
      exact ⟨by omega, hbl, fun _ => by decide, Or.inl rfl, Or.inl rfl, Or.inl rfl⟩
    · rw [va_up_ne _ _ e, if_neg e, if_neg e, if_neg e, if_neg e, if_neg e]
      have hk0 : PV n k := ⟨hk.1, by have := hk.2; omega⟩
      have lk2 : ∀ (d : Nat) (y : Int32), lk (PV n) dp d y → lk (PV z) (va_up dp q bl) d y := by
        intro d y hy
        rcases hy with hy | ⟨k2, g1, g2, g3⟩
        · exact Or.inl hy
        · have hne : k2 ≠ q := by have := g2.2; omega
          exact Or.inr ⟨k2, g1, ⟨g2.1, by have := g2.2; omega⟩, by rw [va_up_ne _ _ hne]; exact g3⟩
      obtain ⟨g1, g2, g3, g4, g5, g6⟩ := h3 k hk0
      exact ⟨g1, g2, g3, lk2 _ _ g4, lk2 _ _ g5, lk2 _ _ g6⟩
  · have hne : k ≠ q := by omega
    rw [up_at hqc, up_at hqc, up_at hqc, up_at hqc, up_at hqc, if_neg hne, if_neg hne, if_neg hne, if_neg hne, if_neg hne]
    exact ⟨rfl, rfl, rfl, rfl, rfl⟩
end PRS
theorem lenS_le : ∀ q : Nat, q ≤ 18 → lenS.getD q 0 ≤ 6 := by decide +kernel

theorem tab_out11 {x : Int32} (h0 : ¬ x = 0) (h1 : ¬ x = 1) (h2 : ¬ x = 2) (h3 : ¬ x = 3) (h4 : ¬ x = 4) (h5 : ¬ x = 5) (h6 : ¬ x = 6) (h7 : ¬ x = 7) (h8 : ¬ x = 8) (h9 : ¬ x = 9) (h10 : ¬ x = 10) : x.toInt < 0 ∨ 10 < x.toInt := by
  have e0 : x.toInt ≠ 0 := fun h => h0 (Int32.toInt_inj.mp h)
  have e1 : x.toInt ≠ 1 := fun h => h1 (Int32.toInt_inj.mp h)
  have e2 : x.toInt ≠ 2 := fun h => h2 (Int32.toInt_inj.mp h)
  have e3 : x.toInt ≠ 3 := fun h => h3 (Int32.toInt_inj.mp h)
  have e4 : x.toInt ≠ 4 := fun h => h4 (Int32.toInt_inj.mp h)
  have e5 : x.toInt ≠ 5 := fun h => h5 (Int32.toInt_inj.mp h)
  have e6 : x.toInt ≠ 6 := fun h => h6 (Int32.toInt_inj.mp h)
  have e7 : x.toInt ≠ 7 := fun h => h7 (Int32.toInt_inj.mp h)
  have e8 : x.toInt ≠ 8 := fun h => h8 (Int32.toInt_inj.mp h)
  have e9 : x.toInt ≠ 9 := fun h => h9 (Int32.toInt_inj.mp h)
  have e10 : x.toInt ≠ 10 := fun h => h10 (Int32.toInt_inj.mp h)
  omega

theorem pu_isLetter (l : Launch) (dC : Nat → ClassId) (dI : Nat → Nat → Nat) (sa : Nat → Nat) (x : Int32) : ∃ z : Int32, (z = 0 ∨ z = 1) ∧ ∀ sz : Nat, PU l dC dI sa yX10_isLetter wsX10_isLetter (rmJ 0) [.int x] sz (some (.int z)) := by
  by_cases h1 : x < 97
  · refine ⟨0, Or.inl rfl, fun sz => ?_⟩
    refine CT.start (cc := cX10_isLetter) (maxL := 1) (ret := (some .boolean)) (by decide) rfl (Nat.le_of_ble_eq_true rfl) ?_
    intro p e s m below meth c ls hst hP hK hD hev hS hl
    obtain ⟨hx, hb, hr, hml, hts, hown, hlocks, hin⟩ := hst
    have hl : lv_has ls 1 [(0, .int x)] := hl
    refine lv_iload_n hx hb dX10_isLetter_0 rfl (lv_at hl 0 rfl) ?_
    refine lv_bipush (v := 97) hx hb dX10_isLetter_1 (by decide) ?_
    refine lv_icmp_lt (tgt := 16) hx hb dX10_isLetter_3 (by decide) (fun _ => ?_) (fun c1 => absurd h1 c1)
    refine lv_iconst (v := 0) hx hb dX10_isLetter_16 (by decide) ?_
    exact en_z hx hb hr rfl hlocks hP hD hK hS () rfl [] [] rfl rfl rfl (Nat.le_of_ble_eq_true rfl) (Nat.le_of_ble_eq_true rfl) dX10_isLetter_17
  by_cases h2 : 122 < x
  · refine ⟨0, Or.inl rfl, fun sz => ?_⟩
    refine CT.start (cc := cX10_isLetter) (maxL := 1) (ret := (some .boolean)) (by decide) rfl (Nat.le_of_ble_eq_true rfl) ?_
    intro p e s m below meth c ls hst hP hK hD hev hS hl
    obtain ⟨hx, hb, hr, hml, hts, hown, hlocks, hin⟩ := hst
    have hl : lv_has ls 1 [(0, .int x)] := hl
    refine lv_iload_n hx hb dX10_isLetter_0 rfl (lv_at hl 0 rfl) ?_
    refine lv_bipush (v := 97) hx hb dX10_isLetter_1 (by decide) ?_
    refine lv_icmp_lt (tgt := 16) hx hb dX10_isLetter_3 (by decide) (fun c1 => absurd c1 h1) (fun _ => ?_)
    refine lv_iload_n hx hb dX10_isLetter_6 rfl (lv_at hl 0 rfl) ?_
    refine lv_bipush (v := 122) hx hb dX10_isLetter_7 (by decide) ?_
    refine lv_icmp_gt (tgt := 16) hx hb dX10_isLetter_9 (by decide) (fun _ => ?_) (fun c1 => absurd h2 c1)
    refine lv_iconst (v := 0) hx hb dX10_isLetter_16 (by decide) ?_
    exact en_z hx hb hr rfl hlocks hP hD hK hS () rfl [] [] rfl rfl rfl (Nat.le_of_ble_eq_true rfl) (Nat.le_of_ble_eq_true rfl) dX10_isLetter_17
  · refine ⟨1, Or.inr rfl, fun sz => ?_⟩
    refine CT.start (cc := cX10_isLetter) (maxL := 1) (ret := (some .boolean)) (by decide) rfl (Nat.le_of_ble_eq_true rfl) ?_
    intro p e s m below meth c ls hst hP hK hD hev hS hl
    obtain ⟨hx, hb, hr, hml, hts, hown, hlocks, hin⟩ := hst
    have hl : lv_has ls 1 [(0, .int x)] := hl
    refine lv_iload_n hx hb dX10_isLetter_0 rfl (lv_at hl 0 rfl) ?_
    refine lv_bipush (v := 97) hx hb dX10_isLetter_1 (by decide) ?_
    refine lv_icmp_lt (tgt := 16) hx hb dX10_isLetter_3 (by decide) (fun c1 => absurd c1 h1) (fun _ => ?_)
    refine lv_iload_n hx hb dX10_isLetter_6 rfl (lv_at hl 0 rfl) ?_
    refine lv_bipush (v := 122) hx hb dX10_isLetter_7 (by decide) ?_
    refine lv_icmp_gt (tgt := 16) hx hb dX10_isLetter_9 (by decide) (fun c1 => absurd c1 h2) (fun _ => ?_)
    refine lv_iconst (v := 1) hx hb dX10_isLetter_12 (by decide) ?_
    refine lv_goto (tgt := 17) hx hb dX10_isLetter_13 (by decide) ?_
    exact en_z hx hb hr rfl hlocks hP hD hK hS () rfl [] [] rfl rfl rfl (Nat.le_of_ble_eq_true rfl) (Nat.le_of_ble_eq_true rfl) dX10_isLetter_17

theorem pu_isDigit (l : Launch) (dC : Nat → ClassId) (dI : Nat → Nat → Nat) (sa : Nat → Nat) (x : Int32) : ∃ z : Int32, (z = 0 ∨ z = 1) ∧ ∀ sz : Nat, PU l dC dI sa yX10_isDigit wsX10_isDigit (rmJ 0) [.int x] sz (some (.int z)) := by
  by_cases h1 : x < 48
  · refine ⟨0, Or.inl rfl, fun sz => ?_⟩
    refine CT.start (cc := cX10_isDigit) (maxL := 1) (ret := (some .boolean)) (by decide) rfl (Nat.le_of_ble_eq_true rfl) ?_
    intro p e s m below meth c ls hst hP hK hD hev hS hl
    obtain ⟨hx, hb, hr, hml, hts, hown, hlocks, hin⟩ := hst
    have hl : lv_has ls 1 [(0, .int x)] := hl
    refine lv_iload_n hx hb dX10_isDigit_0 rfl (lv_at hl 0 rfl) ?_
    refine lv_bipush (v := 48) hx hb dX10_isDigit_1 (by decide) ?_
    refine lv_icmp_lt (tgt := 16) hx hb dX10_isDigit_3 (by decide) (fun _ => ?_) (fun c1 => absurd h1 c1)
    refine lv_iconst (v := 0) hx hb dX10_isDigit_16 (by decide) ?_
    exact en_z hx hb hr rfl hlocks hP hD hK hS () rfl [] [] rfl rfl rfl (Nat.le_of_ble_eq_true rfl) (Nat.le_of_ble_eq_true rfl) dX10_isDigit_17
  by_cases h2 : 57 < x
  · refine ⟨0, Or.inl rfl, fun sz => ?_⟩
    refine CT.start (cc := cX10_isDigit) (maxL := 1) (ret := (some .boolean)) (by decide) rfl (Nat.le_of_ble_eq_true rfl) ?_
    intro p e s m below meth c ls hst hP hK hD hev hS hl
    obtain ⟨hx, hb, hr, hml, hts, hown, hlocks, hin⟩ := hst
    have hl : lv_has ls 1 [(0, .int x)] := hl
    refine lv_iload_n hx hb dX10_isDigit_0 rfl (lv_at hl 0 rfl) ?_
    refine lv_bipush (v := 48) hx hb dX10_isDigit_1 (by decide) ?_
    refine lv_icmp_lt (tgt := 16) hx hb dX10_isDigit_3 (by decide) (fun c1 => absurd c1 h1) (fun _ => ?_)
    refine lv_iload_n hx hb dX10_isDigit_6 rfl (lv_at hl 0 rfl) ?_
    refine lv_bipush (v := 57) hx hb dX10_isDigit_7 (by decide) ?_
    refine lv_icmp_gt (tgt := 16) hx hb dX10_isDigit_9 (by decide) (fun _ => ?_) (fun c1 => absurd h2 c1)
    refine lv_iconst (v := 0) hx hb dX10_isDigit_16 (by decide) ?_
    exact en_z hx hb hr rfl hlocks hP hD hK hS () rfl [] [] rfl rfl rfl (Nat.le_of_ble_eq_true rfl) (Nat.le_of_ble_eq_true rfl) dX10_isDigit_17
  · refine ⟨1, Or.inr rfl, fun sz => ?_⟩
    refine CT.start (cc := cX10_isDigit) (maxL := 1) (ret := (some .boolean)) (by decide) rfl (Nat.le_of_ble_eq_true rfl) ?_
    intro p e s m below meth c ls hst hP hK hD hev hS hl
    obtain ⟨hx, hb, hr, hml, hts, hown, hlocks, hin⟩ := hst
    have hl : lv_has ls 1 [(0, .int x)] := hl
    refine lv_iload_n hx hb dX10_isDigit_0 rfl (lv_at hl 0 rfl) ?_
    refine lv_bipush (v := 48) hx hb dX10_isDigit_1 (by decide) ?_
    refine lv_icmp_lt (tgt := 16) hx hb dX10_isDigit_3 (by decide) (fun c1 => absurd c1 h1) (fun _ => ?_)
    refine lv_iload_n hx hb dX10_isDigit_6 rfl (lv_at hl 0 rfl) ?_
    refine lv_bipush (v := 57) hx hb dX10_isDigit_7 (by decide) ?_
    refine lv_icmp_gt (tgt := 16) hx hb dX10_isDigit_9 (by decide) (fun c1 => absurd c1 h2) (fun _ => ?_)
    refine lv_iconst (v := 1) hx hb dX10_isDigit_12 (by decide) ?_
    refine lv_goto (tgt := 17) hx hb dX10_isDigit_13 (by decide) ?_
    exact en_z hx hb hr rfl hlocks hP hD hK hS () rfl [] [] rfl rfl rfl (Nat.le_of_ble_eq_true rfl) (Nat.le_of_ble_eq_true rfl) dX10_isDigit_17

theorem pu_nameOf_0 (l : Launch) (dC : Nat → ClassId) (dI : Nat → Nat → Nat) (sa : Nat → Nat) (sz : Nat) : PU l dC dI sa yX10_nameOf wsX10_nameOf (rmJ 0) [.int 0] sz (some (.ref (sa (5 + 0)))) := by
  refine CT.start (cc := cX10_nameOf) (maxL := 1) (ret := (some (.object "java/lang/String"))) (by decide) rfl (Nat.le_of_ble_eq_true rfl) ?_
  intro p e s m below meth c ls hst hP hK hD hev hS hl
  obtain ⟨hx, hb, hr, hml, hts, hown, hlocks, hin⟩ := hst
  have hown : s.vm.findClass RX10 = some m.cls := hown
  have hl : lv_has ls 1 [(0, .int 0)] := hl
  refine lv_iload_n hx hb dX10_nameOf_0 rfl (lv_at hl 0 rfl) ?_
  refine lv_tableIn (tgt := 88) hx hb dX10_nameOf_1 (by decide) (by decide) rfl (by decide) ?_
  refine va_ldcS (own := RX10) (tx := "dip") (index := 174) (q := sa (5 + 0)) hx hb hown (hev.2.2.2.2.2.2.2.2 0 (RX10, 174, "dip") rfl) dX10_nameOf_88 ?_
  exact en_a hx hb hr (Or.inl ⟨_, rfl⟩) (Or.inr ⟨_, rfl⟩) hlocks hP hD hK hS () rfl [] [] rfl rfl rfl (Nat.le_of_ble_eq_true rfl) (Nat.le_of_ble_eq_true rfl) dX10_nameOf_90

theorem pu_nameOf_1 (l : Launch) (dC : Nat → ClassId) (dI : Nat → Nat → Nat) (sa : Nat → Nat) (sz : Nat) : PU l dC dI sa yX10_nameOf wsX10_nameOf (rmJ 0) [.int 1] sz (some (.ref (sa (5 + 1)))) := by
  refine CT.start (cc := cX10_nameOf) (maxL := 1) (ret := (some (.object "java/lang/String"))) (by decide) rfl (Nat.le_of_ble_eq_true rfl) ?_
  intro p e s m below meth c ls hst hP hK hD hev hS hl
  obtain ⟨hx, hb, hr, hml, hts, hown, hlocks, hin⟩ := hst
  have hown : s.vm.findClass RX10 = some m.cls := hown
  have hl : lv_has ls 1 [(0, .int 1)] := hl
  refine lv_iload_n hx hb dX10_nameOf_0 rfl (lv_at hl 0 rfl) ?_
  refine lv_tableIn (tgt := 91) hx hb dX10_nameOf_1 (by decide) (by decide) rfl (by decide) ?_
  refine va_ldcS (own := RX10) (tx := "air") (index := 176) (q := sa (5 + 1)) hx hb hown (hev.2.2.2.2.2.2.2.2 1 (RX10, 176, "air") rfl) dX10_nameOf_91 ?_
  exact en_a hx hb hr (Or.inl ⟨_, rfl⟩) (Or.inr ⟨_, rfl⟩) hlocks hP hD hK hS () rfl [] [] rfl rfl rfl (Nat.le_of_ble_eq_true rfl) (Nat.le_of_ble_eq_true rfl) dX10_nameOf_93

theorem pu_nameOf_2 (l : Launch) (dC : Nat → ClassId) (dI : Nat → Nat → Nat) (sa : Nat → Nat) (sz : Nat) : PU l dC dI sa yX10_nameOf wsX10_nameOf (rmJ 0) [.int 2] sz (some (.ref (sa (5 + 2)))) := by
  refine CT.start (cc := cX10_nameOf) (maxL := 1) (ret := (some (.object "java/lang/String"))) (by decide) rfl (Nat.le_of_ble_eq_true rfl) ?_
  intro p e s m below meth c ls hst hP hK hD hev hS hl
  obtain ⟨hx, hb, hr, hml, hts, hown, hlocks, hin⟩ := hst
  have hown : s.vm.findClass RX10 = some m.cls := hown
  have hl : lv_has ls 1 [(0, .int 2)] := hl
  refine lv_iload_n hx hb dX10_nameOf_0 rfl (lv_at hl 0 rfl) ?_
  refine lv_tableIn (tgt := 94) hx hb dX10_nameOf_1 (by decide) (by decide) rfl (by decide) ?_
  refine va_ldcS (own := RX10) (tx := "wash") (index := 178) (q := sa (5 + 2)) hx hb hown (hev.2.2.2.2.2.2.2.2 2 (RX10, 178, "wash") rfl) dX10_nameOf_94 ?_
  exact en_a hx hb hr (Or.inl ⟨_, rfl⟩) (Or.inr ⟨_, rfl⟩) hlocks hP hD hK hS () rfl [] [] rfl rfl rfl (Nat.le_of_ble_eq_true rfl) (Nat.le_of_ble_eq_true rfl) dX10_nameOf_96

theorem pu_nameOf_3 (l : Launch) (dC : Nat → ClassId) (dI : Nat → Nat → Nat) (sa : Nat → Nat) (sz : Nat) : PU l dC dI sa yX10_nameOf wsX10_nameOf (rmJ 0) [.int 3] sz (some (.ref (sa (5 + 3)))) := by
  refine CT.start (cc := cX10_nameOf) (maxL := 1) (ret := (some (.object "java/lang/String"))) (by decide) rfl (Nat.le_of_ble_eq_true rfl) ?_
  intro p e s m below meth c ls hst hP hK hD hev hS hl
  obtain ⟨hx, hb, hr, hml, hts, hown, hlocks, hin⟩ := hst
  have hown : s.vm.findClass RX10 = some m.cls := hown
  have hl : lv_has ls 1 [(0, .int 3)] := hl
  refine lv_iload_n hx hb dX10_nameOf_0 rfl (lv_at hl 0 rfl) ?_
  refine lv_tableIn (tgt := 97) hx hb dX10_nameOf_1 (by decide) (by decide) rfl (by decide) ?_
  refine va_ldcS (own := RX10) (tx := "rest") (index := 180) (q := sa (5 + 3)) hx hb hown (hev.2.2.2.2.2.2.2.2 3 (RX10, 180, "rest") rfl) dX10_nameOf_97 ?_
  exact en_a hx hb hr (Or.inl ⟨_, rfl⟩) (Or.inr ⟨_, rfl⟩) hlocks hP hD hK hS () rfl [] [] rfl rfl rfl (Nat.le_of_ble_eq_true rfl) (Nat.le_of_ble_eq_true rfl) dX10_nameOf_99

theorem pu_nameOf_4 (l : Launch) (dC : Nat → ClassId) (dI : Nat → Nat → Nat) (sa : Nat → Nat) (sz : Nat) : PU l dC dI sa yX10_nameOf wsX10_nameOf (rmJ 0) [.int 4] sz (some (.ref (sa (5 + 4)))) := by
  refine CT.start (cc := cX10_nameOf) (maxL := 1) (ret := (some (.object "java/lang/String"))) (by decide) rfl (Nat.le_of_ble_eq_true rfl) ?_
  intro p e s m below meth c ls hst hP hK hD hev hS hl
  obtain ⟨hx, hb, hr, hml, hts, hown, hlocks, hin⟩ := hst
  have hown : s.vm.findClass RX10 = some m.cls := hown
  have hl : lv_has ls 1 [(0, .int 4)] := hl
  refine lv_iload_n hx hb dX10_nameOf_0 rfl (lv_at hl 0 rfl) ?_
  refine lv_tableIn (tgt := 100) hx hb dX10_nameOf_1 (by decide) (by decide) rfl (by decide) ?_
  refine va_ldcS (own := RX10) (tx := "feed") (index := 182) (q := sa (5 + 4)) hx hb hown (hev.2.2.2.2.2.2.2.2 4 (RX10, 182, "feed") rfl) dX10_nameOf_100 ?_
  exact en_a hx hb hr (Or.inl ⟨_, rfl⟩) (Or.inr ⟨_, rfl⟩) hlocks hP hD hK hS () rfl [] [] rfl rfl rfl (Nat.le_of_ble_eq_true rfl) (Nat.le_of_ble_eq_true rfl) dX10_nameOf_102

theorem pu_nameOf_5 (l : Launch) (dC : Nat → ClassId) (dI : Nat → Nat → Nat) (sa : Nat → Nat) (sz : Nat) : PU l dC dI sa yX10_nameOf wsX10_nameOf (rmJ 0) [.int 5] sz (some (.ref (sa (5 + 5)))) := by
  refine CT.start (cc := cX10_nameOf) (maxL := 1) (ret := (some (.object "java/lang/String"))) (by decide) rfl (Nat.le_of_ble_eq_true rfl) ?_
  intro p e s m below meth c ls hst hP hK hD hev hS hl
  obtain ⟨hx, hb, hr, hml, hts, hown, hlocks, hin⟩ := hst
  have hown : s.vm.findClass RX10 = some m.cls := hown
  have hl : lv_has ls 1 [(0, .int 5)] := hl
  refine lv_iload_n hx hb dX10_nameOf_0 rfl (lv_at hl 0 rfl) ?_
  refine lv_tableIn (tgt := 103) hx hb dX10_nameOf_1 (by decide) (by decide) rfl (by decide) ?_
  refine va_ldcS (own := RX10) (tx := "lime") (index := 184) (q := sa (5 + 5)) hx hb hown (hev.2.2.2.2.2.2.2.2 5 (RX10, 184, "lime") rfl) dX10_nameOf_103 ?_
  exact en_a hx hb hr (Or.inl ⟨_, rfl⟩) (Or.inr ⟨_, rfl⟩) hlocks hP hD hK hS () rfl [] [] rfl rfl rfl (Nat.le_of_ble_eq_true rfl) (Nat.le_of_ble_eq_true rfl) dX10_nameOf_105

theorem pu_nameOf_6 (l : Launch) (dC : Nat → ClassId) (dI : Nat → Nat → Nat) (sa : Nat → Nat) (sz : Nat) : PU l dC dI sa yX10_nameOf wsX10_nameOf (rmJ 0) [.int 6] sz (some (.ref (sa (5 + 6)))) := by
  refine CT.start (cc := cX10_nameOf) (maxL := 1) (ret := (some (.object "java/lang/String"))) (by decide) rfl (Nat.le_of_ble_eq_true rfl) ?_
  intro p e s m below meth c ls hst hP hK hD hev hS hl
  obtain ⟨hx, hb, hr, hml, hts, hown, hlocks, hin⟩ := hst
  have hown : s.vm.findClass RX10 = some m.cls := hown
  have hl : lv_has ls 1 [(0, .int 6)] := hl
  refine lv_iload_n hx hb dX10_nameOf_0 rfl (lv_at hl 0 rfl) ?_
  refine lv_tableIn (tgt := 106) hx hb dX10_nameOf_1 (by decide) (by decide) rfl (by decide) ?_
  refine va_ldcS (own := RX10) (tx := "fail") (index := 186) (q := sa (5 + 6)) hx hb hown (hev.2.2.2.2.2.2.2.2 6 (RX10, 186, "fail") rfl) dX10_nameOf_106 ?_
  exact en_a hx hb hr (Or.inl ⟨_, rfl⟩) (Or.inr ⟨_, rfl⟩) hlocks hP hD hK hS () rfl [] [] rfl rfl rfl (Nat.le_of_ble_eq_true rfl) (Nat.le_of_ble_eq_true rfl) dX10_nameOf_108

theorem pu_nameOf_7 (l : Launch) (dC : Nat → ClassId) (dI : Nat → Nat → Nat) (sa : Nat → Nat) (sz : Nat) : PU l dC dI sa yX10_nameOf wsX10_nameOf (rmJ 0) [.int 7] sz (some (.ref (sa (5 + 7)))) := by
  refine CT.start (cc := cX10_nameOf) (maxL := 1) (ret := (some (.object "java/lang/String"))) (by decide) rfl (Nat.le_of_ble_eq_true rfl) ?_
  intro p e s m below meth c ls hst hP hK hD hev hS hl
  obtain ⟨hx, hb, hr, hml, hts, hown, hlocks, hin⟩ := hst
  have hown : s.vm.findClass RX10 = some m.cls := hown
  have hl : lv_has ls 1 [(0, .int 7)] := hl
  refine lv_iload_n hx hb dX10_nameOf_0 rfl (lv_at hl 0 rfl) ?_
  refine lv_tableIn (tgt := 109) hx hb dX10_nameOf_1 (by decide) (by decide) rfl (by decide) ?_
  refine va_ldcS (own := RX10) (tx := "times") (index := 188) (q := sa (5 + 7)) hx hb hown (hev.2.2.2.2.2.2.2.2 7 (RX10, 188, "times") rfl) dX10_nameOf_109 ?_
  exact en_a hx hb hr (Or.inl ⟨_, rfl⟩) (Or.inr ⟨_, rfl⟩) hlocks hP hD hK hS () rfl [] [] rfl rfl rfl (Nat.le_of_ble_eq_true rfl) (Nat.le_of_ble_eq_true rfl) dX10_nameOf_111

theorem pu_nameOf_8 (l : Launch) (dC : Nat → ClassId) (dI : Nat → Nat → Nat) (sa : Nat → Nat) (sz : Nat) : PU l dC dI sa yX10_nameOf wsX10_nameOf (rmJ 0) [.int 8] sz (some (.ref (sa (5 + 8)))) := by
  refine CT.start (cc := cX10_nameOf) (maxL := 1) (ret := (some (.object "java/lang/String"))) (by decide) rfl (Nat.le_of_ble_eq_true rfl) ?_
  intro p e s m below meth c ls hst hP hK hD hev hS hl
  obtain ⟨hx, hb, hr, hml, hts, hown, hlocks, hin⟩ := hst
  have hown : s.vm.findClass RX10 = some m.cls := hown
  have hl : lv_has ls 1 [(0, .int 8)] := hl
  refine lv_iload_n hx hb dX10_nameOf_0 rfl (lv_at hl 0 rfl) ?_
  refine lv_tableIn (tgt := 112) hx hb dX10_nameOf_1 (by decide) (by decide) rfl (by decide) ?_
  refine va_ldcS (own := RX10) (tx := "until") (index := 190) (q := sa (5 + 8)) hx hb hown (hev.2.2.2.2.2.2.2.2 8 (RX10, 190, "until") rfl) dX10_nameOf_112 ?_
  exact en_a hx hb hr (Or.inl ⟨_, rfl⟩) (Or.inr ⟨_, rfl⟩) hlocks hP hD hK hS () rfl [] [] rfl rfl rfl (Nat.le_of_ble_eq_true rfl) (Nat.le_of_ble_eq_true rfl) dX10_nameOf_114

theorem pu_nameOf_9 (l : Launch) (dC : Nat → ClassId) (dI : Nat → Nat → Nat) (sa : Nat → Nat) (sz : Nat) : PU l dC dI sa yX10_nameOf wsX10_nameOf (rmJ 0) [.int 9] sz (some (.ref (sa (5 + 9)))) := by
  refine CT.start (cc := cX10_nameOf) (maxL := 1) (ret := (some (.object "java/lang/String"))) (by decide) rfl (Nat.le_of_ble_eq_true rfl) ?_
  intro p e s m below meth c ls hst hP hK hD hev hS hl
  obtain ⟨hx, hb, hr, hml, hts, hown, hlocks, hin⟩ := hst
  have hown : s.vm.findClass RX10 = some m.cls := hown
  have hl : lv_has ls 1 [(0, .int 9)] := hl
  refine lv_iload_n hx hb dX10_nameOf_0 rfl (lv_at hl 0 rfl) ?_
  refine lv_tableIn (tgt := 115) hx hb dX10_nameOf_1 (by decide) (by decide) rfl (by decide) ?_
  refine va_ldcS (own := RX10) (tx := "if") (index := 192) (q := sa (5 + 9)) hx hb hown (hev.2.2.2.2.2.2.2.2 9 (RX10, 192, "if") rfl) dX10_nameOf_115 ?_
  exact en_a hx hb hr (Or.inl ⟨_, rfl⟩) (Or.inr ⟨_, rfl⟩) hlocks hP hD hK hS () rfl [] [] rfl rfl rfl (Nat.le_of_ble_eq_true rfl) (Nat.le_of_ble_eq_true rfl) dX10_nameOf_117

theorem pu_nameOf_10 (l : Launch) (dC : Nat → ClassId) (dI : Nat → Nat → Nat) (sa : Nat → Nat) (sz : Nat) : PU l dC dI sa yX10_nameOf wsX10_nameOf (rmJ 0) [.int 10] sz (some (.ref (sa (5 + 10)))) := by
  refine CT.start (cc := cX10_nameOf) (maxL := 1) (ret := (some (.object "java/lang/String"))) (by decide) rfl (Nat.le_of_ble_eq_true rfl) ?_
  intro p e s m below meth c ls hst hP hK hD hev hS hl
  obtain ⟨hx, hb, hr, hml, hts, hown, hlocks, hin⟩ := hst
  have hown : s.vm.findClass RX10 = some m.cls := hown
  have hl : lv_has ls 1 [(0, .int 10)] := hl
  refine lv_iload_n hx hb dX10_nameOf_0 rfl (lv_at hl 0 rfl) ?_
  refine lv_tableIn (tgt := 118) hx hb dX10_nameOf_1 (by decide) (by decide) rfl (by decide) ?_
  refine va_ldcS (own := RX10) (tx := "try") (index := 194) (q := sa (5 + 10)) hx hb hown (hev.2.2.2.2.2.2.2.2 10 (RX10, 194, "try") rfl) dX10_nameOf_118 ?_
  exact en_a hx hb hr (Or.inl ⟨_, rfl⟩) (Or.inr ⟨_, rfl⟩) hlocks hP hD hK hS () rfl [] [] rfl rfl rfl (Nat.le_of_ble_eq_true rfl) (Nat.le_of_ble_eq_true rfl) dX10_nameOf_120

theorem pu_nameOf_11 (l : Launch) (dC : Nat → ClassId) (dI : Nat → Nat → Nat) (sa : Nat → Nat) (sz : Nat) : PU l dC dI sa yX10_nameOf wsX10_nameOf (rmJ 0) [.int 11] sz (some (.ref (sa (5 + 11)))) := by
  refine CT.start (cc := cX10_nameOf) (maxL := 1) (ret := (some (.object "java/lang/String"))) (by decide) rfl (Nat.le_of_ble_eq_true rfl) ?_
  intro p e s m below meth c ls hst hP hK hD hev hS hl
  obtain ⟨hx, hb, hr, hml, hts, hown, hlocks, hin⟩ := hst
  have hown : s.vm.findClass RX10 = some m.cls := hown
  have hl : lv_has ls 1 [(0, .int 11)] := hl
  refine lv_iload_n hx hb dX10_nameOf_0 rfl (lv_at hl 0 rfl) ?_
  refine lv_tableIn (tgt := 121) hx hb dX10_nameOf_1 (by decide) (by decide) rfl (by decide) ?_
  refine va_ldcS (own := RX10) (tx := "do") (index := 196) (q := sa (5 + 11)) hx hb hown (hev.2.2.2.2.2.2.2.2 11 (RX10, 196, "do") rfl) dX10_nameOf_121 ?_
  exact en_a hx hb hr (Or.inl ⟨_, rfl⟩) (Or.inr ⟨_, rfl⟩) hlocks hP hD hK hS () rfl [] [] rfl rfl rfl (Nat.le_of_ble_eq_true rfl) (Nat.le_of_ble_eq_true rfl) dX10_nameOf_123

theorem pu_nameOf_12 (l : Launch) (dC : Nat → ClassId) (dI : Nat → Nat → Nat) (sa : Nat → Nat) (sz : Nat) : PU l dC dI sa yX10_nameOf wsX10_nameOf (rmJ 0) [.int 12] sz (some (.ref (sa (5 + 12)))) := by
  refine CT.start (cc := cX10_nameOf) (maxL := 1) (ret := (some (.object "java/lang/String"))) (by decide) rfl (Nat.le_of_ble_eq_true rfl) ?_
  intro p e s m below meth c ls hst hP hK hD hev hS hl
  obtain ⟨hx, hb, hr, hml, hts, hown, hlocks, hin⟩ := hst
  have hown : s.vm.findClass RX10 = some m.cls := hown
  have hl : lv_has ls 1 [(0, .int 12)] := hl
  refine lv_iload_n hx hb dX10_nameOf_0 rfl (lv_at hl 0 rfl) ?_
  refine lv_tableIn (tgt := 124) hx hb dX10_nameOf_1 (by decide) (by decide) rfl (by decide) ?_
  refine va_ldcS (own := RX10) (tx := "last") (index := 198) (q := sa (5 + 12)) hx hb hown (hev.2.2.2.2.2.2.2.2 12 (RX10, 198, "last") rfl) dX10_nameOf_124 ?_
  exact en_a hx hb hr (Or.inl ⟨_, rfl⟩) (Or.inr ⟨_, rfl⟩) hlocks hP hD hK hS () rfl [] [] rfl rfl rfl (Nat.le_of_ble_eq_true rfl) (Nat.le_of_ble_eq_true rfl) dX10_nameOf_126

theorem pu_nameOf_13 (l : Launch) (dC : Nat → ClassId) (dI : Nat → Nat → Nat) (sa : Nat → Nat) (sz : Nat) : PU l dC dI sa yX10_nameOf wsX10_nameOf (rmJ 0) [.int 13] sz (some (.ref (sa (5 + 13)))) := by
  refine CT.start (cc := cX10_nameOf) (maxL := 1) (ret := (some (.object "java/lang/String"))) (by decide) rfl (Nat.le_of_ble_eq_true rfl) ?_
  intro p e s m below meth c ls hst hP hK hD hev hS hl
  obtain ⟨hx, hb, hr, hml, hts, hown, hlocks, hin⟩ := hst
  have hown : s.vm.findClass RX10 = some m.cls := hown
  have hl : lv_has ls 1 [(0, .int 13)] := hl
  refine lv_iload_n hx hb dX10_nameOf_0 rfl (lv_at hl 0 rfl) ?_
  refine lv_tableIn (tgt := 127) hx hb dX10_nameOf_1 (by decide) (by decide) rfl (by decide) ?_
  refine va_ldcS (own := RX10) (tx := "else") (index := 200) (q := sa (5 + 13)) hx hb hown (hev.2.2.2.2.2.2.2.2 13 (RX10, 200, "else") rfl) dX10_nameOf_127 ?_
  exact en_a hx hb hr (Or.inl ⟨_, rfl⟩) (Or.inr ⟨_, rfl⟩) hlocks hP hD hK hS () rfl [] [] rfl rfl rfl (Nat.le_of_ble_eq_true rfl) (Nat.le_of_ble_eq_true rfl) dX10_nameOf_129

theorem pu_nameOf_14 (l : Launch) (dC : Nat → ClassId) (dI : Nat → Nat → Nat) (sa : Nat → Nat) (sz : Nat) : PU l dC dI sa yX10_nameOf wsX10_nameOf (rmJ 0) [.int 14] sz (some (.ref (sa (5 + 14)))) := by
  refine CT.start (cc := cX10_nameOf) (maxL := 1) (ret := (some (.object "java/lang/String"))) (by decide) rfl (Nat.le_of_ble_eq_true rfl) ?_
  intro p e s m below meth c ls hst hP hK hD hev hS hl
  obtain ⟨hx, hb, hr, hml, hts, hown, hlocks, hin⟩ := hst
  have hown : s.vm.findClass RX10 = some m.cls := hown
  have hl : lv_has ls 1 [(0, .int 14)] := hl
  refine lv_iload_n hx hb dX10_nameOf_0 rfl (lv_at hl 0 rfl) ?_
  refine lv_tableIn (tgt := 130) hx hb dX10_nameOf_1 (by decide) (by decide) rfl (by decide) ?_
  refine va_ldcS (own := RX10) (tx := "shade") (index := 202) (q := sa (5 + 14)) hx hb hown (hev.2.2.2.2.2.2.2.2 14 (RX10, 202, "shade") rfl) dX10_nameOf_130 ?_
  exact en_a hx hb hr (Or.inl ⟨_, rfl⟩) (Or.inr ⟨_, rfl⟩) hlocks hP hD hK hS () rfl [] [] rfl rfl rfl (Nat.le_of_ble_eq_true rfl) (Nat.le_of_ble_eq_true rfl) dX10_nameOf_132

theorem pu_nameOf_15 (l : Launch) (dC : Nat → ClassId) (dI : Nat → Nat → Nat) (sa : Nat → Nat) (sz : Nat) : PU l dC dI sa yX10_nameOf wsX10_nameOf (rmJ 0) [.int 15] sz (some (.ref (sa (5 + 15)))) := by
  refine CT.start (cc := cX10_nameOf) (maxL := 1) (ret := (some (.object "java/lang/String"))) (by decide) rfl (Nat.le_of_ble_eq_true rfl) ?_
  intro p e s m below meth c ls hst hP hK hD hev hS hl
  obtain ⟨hx, hb, hr, hml, hts, hown, hlocks, hin⟩ := hst
  have hown : s.vm.findClass RX10 = some m.cls := hown
  have hl : lv_has ls 1 [(0, .int 15)] := hl
  refine lv_iload_n hx hb dX10_nameOf_0 rfl (lv_at hl 0 rfl) ?_
  refine lv_tableIn (tgt := 133) hx hb dX10_nameOf_1 (by decide) (by decide) rfl (by decide) ?_
  refine va_ldcS (own := RX10) (tx := "loose") (index := 204) (q := sa (5 + 15)) hx hb hown (hev.2.2.2.2.2.2.2.2 15 (RX10, 204, "loose") rfl) dX10_nameOf_133 ?_
  exact en_a hx hb hr (Or.inl ⟨_, rfl⟩) (Or.inr ⟨_, rfl⟩) hlocks hP hD hK hS () rfl [] [] rfl rfl rfl (Nat.le_of_ble_eq_true rfl) (Nat.le_of_ble_eq_true rfl) dX10_nameOf_135

theorem pu_nameOf_16 (l : Launch) (dC : Nat → ClassId) (dI : Nat → Nat → Nat) (sa : Nat → Nat) (sz : Nat) : PU l dC dI sa yX10_nameOf wsX10_nameOf (rmJ 0) [.int 16] sz (some (.ref (sa (5 + 16)))) := by
  refine CT.start (cc := cX10_nameOf) (maxL := 1) (ret := (some (.object "java/lang/String"))) (by decide) rfl (Nat.le_of_ble_eq_true rfl) ?_
  intro p e s m below meth c ls hst hP hK hD hev hS hl
  obtain ⟨hx, hb, hr, hml, hts, hown, hlocks, hin⟩ := hst
  have hown : s.vm.findClass RX10 = some m.cls := hown
  have hl : lv_has ls 1 [(0, .int 16)] := hl
  refine lv_iload_n hx hb dX10_nameOf_0 rfl (lv_at hl 0 rfl) ?_
  refine lv_tableIn (tgt := 136) hx hb dX10_nameOf_1 (by decide) (by decide) rfl (by decide) ?_
  refine va_ldcS (own := RX10) (tx := "hour") (index := 205) (q := sa (5 + 16)) hx hb hown (hev.2.2.2.2.2.2.2.2 16 (RX10, 205, "hour") rfl) dX10_nameOf_136 ?_
  exact en_a hx hb hr (Or.inl ⟨_, rfl⟩) (Or.inr ⟨_, rfl⟩) hlocks hP hD hK hS () rfl [] [] rfl rfl rfl (Nat.le_of_ble_eq_true rfl) (Nat.le_of_ble_eq_true rfl) dX10_nameOf_138

theorem pu_nameOf_17 (l : Launch) (dC : Nat → ClassId) (dI : Nat → Nat → Nat) (sa : Nat → Nat) (sz : Nat) : PU l dC dI sa yX10_nameOf wsX10_nameOf (rmJ 0) [.int 17] sz (some (.ref (sa (5 + 17)))) := by
  refine CT.start (cc := cX10_nameOf) (maxL := 1) (ret := (some (.object "java/lang/String"))) (by decide) rfl (Nat.le_of_ble_eq_true rfl) ?_
  intro p e s m below meth c ls hst hP hK hD hev hS hl
  obtain ⟨hx, hb, hr, hml, hts, hown, hlocks, hin⟩ := hst
  have hown : s.vm.findClass RX10 = some m.cls := hown
  have hl : lv_has ls 1 [(0, .int 17)] := hl
  refine lv_iload_n hx hb dX10_nameOf_0 rfl (lv_at hl 0 rfl) ?_
  refine lv_tableIn (tgt := 139) hx hb dX10_nameOf_1 (by decide) (by decide) rfl (by decide) ?_
  refine va_ldcS (own := RX10) (tx := "grains") (index := 206) (q := sa (5 + 17)) hx hb hown (hev.2.2.2.2.2.2.2.2 17 (RX10, 206, "grains") rfl) dX10_nameOf_139 ?_
  exact en_a hx hb hr (Or.inl ⟨_, rfl⟩) (Or.inr ⟨_, rfl⟩) hlocks hP hD hK hS () rfl [] [] rfl rfl rfl (Nat.le_of_ble_eq_true rfl) (Nat.le_of_ble_eq_true rfl) dX10_nameOf_141

theorem pu_nameOf_18 (l : Launch) (dC : Nat → ClassId) (dI : Nat → Nat → Nat) (sa : Nat → Nat) (sz : Nat) : PU l dC dI sa yX10_nameOf wsX10_nameOf (rmJ 0) [.int 18] sz (some (.ref (sa (5 + 18)))) := by
  refine CT.start (cc := cX10_nameOf) (maxL := 1) (ret := (some (.object "java/lang/String"))) (by decide) rfl (Nat.le_of_ble_eq_true rfl) ?_
  intro p e s m below meth c ls hst hP hK hD hev hS hl
  obtain ⟨hx, hb, hr, hml, hts, hown, hlocks, hin⟩ := hst
  have hown : s.vm.findClass RX10 = some m.cls := hown
  have hl : lv_has ls 1 [(0, .int 18)] := hl
  refine lv_iload_n hx hb dX10_nameOf_0 rfl (lv_at hl 0 rfl) ?_
  refine lv_tableOut (tgt := 142) hx hb dX10_nameOf_1 (by decide) (by decide) ?_
  refine va_ldcS (own := RX10) (tx := "food") (index := 207) (q := sa (5 + 18)) hx hb hown (hev.2.2.2.2.2.2.2.2 18 (RX10, 207, "food") rfl) dX10_nameOf_142 ?_
  exact en_a hx hb hr (Or.inl ⟨_, rfl⟩) (Or.inr ⟨_, rfl⟩) hlocks hP hD hK hS () rfl [] [] rfl rfl rfl (Nat.le_of_ble_eq_true rfl) (Nat.le_of_ble_eq_true rfl) dX10_nameOf_144

theorem pu_nameOf (l : Launch) (dC : Nat → ClassId) (dI : Nat → Nat → Nat) (sa : Nat → Nat) (q : Nat) (hq : q ≤ 18) (x : Int32) (hx : x = nI q) (sz : Nat) : PU l dC dI sa yX10_nameOf wsX10_nameOf (rmJ 0) [.int x] sz (some (.ref (sa (5 + q)))) := by
  subst hx
  match q, hq with
  | 0, _ => exact pu_nameOf_0 l dC dI sa sz
  | 1, _ => exact pu_nameOf_1 l dC dI sa sz
  | 2, _ => exact pu_nameOf_2 l dC dI sa sz
  | 3, _ => exact pu_nameOf_3 l dC dI sa sz
  | 4, _ => exact pu_nameOf_4 l dC dI sa sz
  | 5, _ => exact pu_nameOf_5 l dC dI sa sz
  | 6, _ => exact pu_nameOf_6 l dC dI sa sz
  | 7, _ => exact pu_nameOf_7 l dC dI sa sz
  | 8, _ => exact pu_nameOf_8 l dC dI sa sz
  | 9, _ => exact pu_nameOf_9 l dC dI sa sz
  | 10, _ => exact pu_nameOf_10 l dC dI sa sz
  | 11, _ => exact pu_nameOf_11 l dC dI sa sz
  | 12, _ => exact pu_nameOf_12 l dC dI sa sz
  | 13, _ => exact pu_nameOf_13 l dC dI sa sz
  | 14, _ => exact pu_nameOf_14 l dC dI sa sz
  | 15, _ => exact pu_nameOf_15 l dC dI sa sz
  | 16, _ => exact pu_nameOf_16 l dC dI sa sz
  | 17, _ => exact pu_nameOf_17 l dC dI sa sz
  | 18, _ => exact pu_nameOf_18 l dC dI sa sz
  | n + 19, h => exact absurd h (by omega)

theorem incz {x y z : Int32} (h : ¬ y ≤ x) (hz : z = x + 1) : z.toInt = x.toInt + 1 := by
  rw [hz]
  exact inc_toInt (b := y) (by rw [Int32.lt_iff_toInt_lt]; rw [Int32.le_iff_toInt_le] at h; omega)
theorem nm_q {ii : Int32} {n : Nat} (hm : ∃ q : Nat, ii = nI q ∧ q ≤ 18 + 1 ∧ 18 + 1 < q + n) (h : ¬ 18 < ii) : ∃ q : Nat, ii = nI q ∧ q ≤ 18 := by
  obtain ⟨q, h1, h2, -⟩ := hm
  refine ⟨q, h1, ?_⟩
  rcases Nat.lt_or_ge 18 q with h4 | h4
  · have e : q = 19 := by omega
    rw [h1, e] at h
    exact absurd (by decide) h
  · exact h4
theorem wd_len {z z2 en at0 : Int32} {L : Nat} (ez : z = nI L) (e2 : z2 = en - at0) (c : z = z2) (hL : L < 2 ^ 31) (h1 : 0 ≤ en.toInt - at0.toInt) (h2 : en.toInt - at0.toInt < 2147483648) : (L : Int) = en.toInt - at0.toInt := by
  have h3 := sub_i e2 (by omega) h2
  rw [← h3, ← c, ez, nI_toInt hL]

abbrev rm_X10_wrong : Room := { frames := 0, cells := 0, slots := 0, locals := 0 }
theorem inw_X10_wrong_10 : ∀ w ∈ wsX100, w ∈ wsX10_wrong := by decide +kernel
set_option maxHeartbeats 1000000 in
set_option maxRecDepth 100000 in
theorem m_X10_wrong (l : Launch) (dC : Nat → ClassId) (dI : Nat → Nat → Nat) (sa : Nat → Nat) (g : Nat → Nat) (h0 : Nat) (b : Nat → Nat) (i : Nat → Int32) (a : Nat → Nat → Int32) (kd : Int32) (pl : Int32) (sz : Nat) (hk0 : 0 < kd.toInt) (hFK : 0 ≤ (i 23).toInt) : CT l dC dI sa yX10_wrong wsX10_wrong rm_X10_wrong [.ref h0, .int kd, .int pl] (mw g h0 b i a) (tyM g) sz (fun (r : Option Value) (u : Int32 × Int32) => match u with | (x23, x24) => ((r = some (.int 0) ∧ (0 < x23.toInt)) ∨ (r = some (.int 1) ∧ (False))) ∧ (True)) (fun (u : Int32 × Int32) => match u with | (x23, x24) => mw g h0 b (va_up (va_up i 23 x23) 24 x24) a) (fun _ => []) 0 0 := by
  refine CT.start (cc := cX10_wrong) (maxL := 3) (ret := (some .boolean)) (by decide) rfl (Nat.le_of_ble_eq_true rfl) ?_
  intro p e s m below meth c ls hst hP hK hD hev hS hl
  obtain ⟨hx, hb, hr, hml, hts, hown, hlocks, hin⟩ := hst
  have hown : s.vm.findClass RX10 = some m.cls := hown
  have hA : ∀ q : Nat, s.heap.size ≤ q → va_A (mw g h0 b i a) s.heap.size q := fun _ h => Or.inr h
  have hl : lv_has ls 3 [(0, .ref h0), (1, .int kd), (2, .int pl)] := hl
  refine lv_aload_n hx hb dX10_wrong_0 rfl (lv_at hl 0 rfl) ?_
  refine va_get (D := (dC, dI)) (ci := 10) (v := .int (i 23)) (C := RX10) (T := TX10) (N := 51) hx hb hts inw_X10_wrong_10 hown hK hP 0 rfl rfl 23 (by decide) (hts (.fieldLink RX10 165 "VatHouseModel" "faultKind" "I") (by decide +kernel)) (fun _ h9 => h9) rfl dX10_wrong_1 ?_
  refine lv_if_ne (tgt := 17) hx hb dX10_wrong_4 (by decide) (fun c_1 => ?_) (fun c_1 => ?_)
  · have nc_1 := ne_i c_1
    have lc_1 : (0 : Int32).toInt = 0 := by decide
    refine lv_iconst (v := 0) hx hb dX10_wrong_17 (by decide) ?_
    exact M_z hx hb hr rfl hlocks ((i 23), (i 24)) hP hD hK hS ⟨Or.inl ⟨rfl, by omega⟩, trivial⟩ (Nat.le_of_ble_eq_true rfl) (Nat.le_of_ble_eq_true rfl) dX10_wrong_18
  · have nc_1 := eq_i c_1
    have lc_1 : (0 : Int32).toInt = 0 := by decide
    refine lv_aload_n hx hb dX10_wrong_7 rfl (lv_at hl 0 rfl) ?_
    refine lv_iload_n hx hb dX10_wrong_8 rfl (lv_at hl 1 rfl) ?_
    refine va_put (D := (dC, dI)) (ci := 10) (v := .int kd) (ty := .int) (C := RX10) (T := TX10) (N := 51) hx hb hts inw_X10_wrong_10 tyX10 tyX10_ok nmX10 hown hK hP hD hS 0 rfl rfl 23 (by decide) (hts (.fieldLink RX10 165 "VatHouseModel" "faultKind" "I") (by decide +kernel)) (fun _ h9 => h9) rfl (by decide +kernel) rfl rfl (Nat.le_of_ble_eq_true rfl) dX10_wrong_9 (fun H locs hP hD hS => ?_)
    have hP : va_P (dC, dI) vwCl (mw g h0 b (va_up i 23 kd) a) _ := hP
    have hD : va_D _ (mw g h0 b (va_up i 23 kd) a) := hD
    refine lv_aload_n hx hb dX10_wrong_12 rfl (lv_at hl 0 rfl) ?_
    refine lv_iload_n hx hb dX10_wrong_13 rfl (lv_at hl 2 rfl) ?_
    refine va_put (D := (dC, dI)) (ci := 10) (v := .int pl) (ty := .int) (C := RX10) (T := TX10) (N := 51) hx hb hts inw_X10_wrong_10 tyX10 tyX10_ok nmX10 hown hK hP hD hS 0 rfl rfl 24 (by decide) (hts (.fieldLink RX10 56 "VatHouseModel" "faultPlace" "I") (by decide +kernel)) (fun _ h9 => h9) rfl (by decide +kernel) rfl rfl (Nat.le_of_ble_eq_true rfl) dX10_wrong_14 (fun H locs hP hD hS => ?_)
    have hP : va_P (dC, dI) vwCl (mw g h0 b (va_up (va_up i 23 kd) 24 pl) a) _ := hP
    have hD : va_D _ (mw g h0 b (va_up (va_up i 23 kd) 24 pl) a) := hD
    refine lv_iconst (v := 0) hx hb dX10_wrong_17 (by decide) ?_
    exact M_z hx hb hr rfl hlocks (kd, pl) hP hD hK hS ⟨Or.inl ⟨rfl, hk0⟩, trivial⟩ (Nat.le_of_ble_eq_true rfl) (Nat.le_of_ble_eq_true rfl) dX10_wrong_18

abbrev rm_X10_skip : Room := { frames := 0, cells := 0, slots := 0, locals := 0 }
theorem inw_X10_skip_10 : ∀ w ∈ wsX100, w ∈ wsX10_skip := by decide +kernel
set_option maxHeartbeats 1000000 in
set_option maxRecDepth 100000 in
theorem m_X10_skip (l : Launch) (dC : Nat → ClassId) (dI : Nat → Nat → Nat) (sa : Nat → Nat) (g : Nat → Nat) (h0 : Nat) (b : Nat → Nat) (i : Nat → Int32) (a : Nat → Nat → Int32) (sz : Nat) (hSI : 0 ≤ (i 22).toInt ∧ (i 22).toInt ≤ (i 21).toInt ∧ (i 21).toInt ≤ 1500) : CT l dC dI sa yX10_skip wsX10_skip rm_X10_skip [.ref h0] (mw g h0 b i a) (tyM g) sz (fun (r : Option Value) (x22 : Int32) => (r = none) ∧ ((i 22).toInt ≤ x22.toInt ∧ x22.toInt ≤ (i 21).toInt)) (fun (x22 : Int32) => mw g h0 b (va_up i 22 x22) a) (fun _ => []) 0 0 := by
  refine CT.start (cc := cX10_skip) (maxL := 1) (ret := none) (by decide) rfl (Nat.le_of_ble_eq_true rfl) ?_
  intro p e s m below meth c ls hst hP hK hD hev hS hl
  obtain ⟨hx, hb, hr, hml, hts, hown, hlocks, hin⟩ := hst
  have hown : s.vm.findClass RX10 = some m.cls := hown
  have hA : ∀ q : Nat, s.heap.size ≤ q → va_A (mw g h0 b i a) s.heap.size q := fun _ h => Or.inr h
  have hl : lv_has ls 1 [(0, .ref h0)] := hl
  have lp : ∀ (n : Nat) (l22 : Int32) (H : Heap) (locs : List Loc) (ls : Array Slot), (((i 21).toInt - l22.toInt).toNat < n) → ((i 22).toInt ≤ l22.toInt ∧ l22.toInt ≤ (i 21).toInt) → va_P (dC, dI) vwCl (mw g h0 b (va_up i 22 l22) a) H → va_D (va_A (mw g h0 b i a) s.heap.size) (mw g h0 b (va_up i 22 l22) a) → va_S (va_A (mw g h0 b i a) s.heap.size) s.heap H locs → lv_has ls 1 [(0, .ref h0)] → W p l e rm_X10_skip s m [.ref h0].toArray below meth c H locs 0 0 (MQ below (Qg (fun (r : Option Value) (x22 : Int32) => (r = none) ∧ ((i 22).toInt ≤ x22.toInt ∧ x22.toInt ≤ (i 21).toInt)) (fun u t => QW dC dI (va_A (mw g h0 b i a) s.heap.size) ((fun (x22 : Int32) => mw g h0 b (va_up i 22 x22) a) u) [] t) (va_A (mw g h0 b i a) s.heap.size)) [.ref h0].toArray s 0 0 (va_A (mw g h0 b i a) s.heap.size)) (F0 m 0 ls []) := by
    intro n
    induction n with
    | zero => intro l22 H locs ls hm hat hP hD hS hl; exact absurd hm (by omega)
    | succ n ih =>
      intro l22 H locs ls hm hat hP hD hS hl
      refine lv_aload_n hx hb dX10_skip_0 rfl (lv_at hl 0 rfl) ?_
      refine va_get (D := (dC, dI)) (ci := 10) (v := .int l22) (C := RX10) (T := TX10) (N := 51) hx hb hts inw_X10_skip_10 hown hK hP 0 rfl rfl 22 (by decide) (hts (.fieldLink RX10 168 "VatHouseModel" "at" "I") (by decide +kernel)) (fun _ h9 => h9) rfl dX10_skip_1 ?_
      refine lv_aload_n hx hb dX10_skip_4 rfl (lv_at hl 0 rfl) ?_
      refine va_get (D := (dC, dI)) (ci := 10) (v := .int (i 21)) (C := RX10) (T := TX10) (N := 51) hx hb hts inw_X10_skip_10 hown hK hP 0 rfl rfl 21 (by decide) (hts (.fieldLink RX10 171 "VatHouseModel" "size" "I") (by decide +kernel)) (fun _ h9 => h9) rfl dX10_skip_5 ?_
      refine lv_icmp_ge (tgt := 52) hx hb dX10_skip_8 (by decide) (fun c_1 => ?_) (fun c_1 => ?_)
      · have nc_1 := le_i c_1
        exact M_v hx hb hr hlocks (l22) hP hD hK hS ⟨rfl, ⟨by omega, by omega⟩⟩ (Nat.le_of_ble_eq_true rfl) (Nat.le_of_ble_eq_true rfl) dX10_skip_52
      · have nc_1 := nle_i c_1
        refine lv_aload_n hx hb dX10_skip_11 rfl (lv_at hl 0 rfl) ?_
        refine va_get (D := (dC, dI)) (ci := 10) (v := .ref (b 19)) (C := RX10) (T := TX10) (N := 51) hx hb hts inw_X10_skip_10 hown hK hP 0 rfl rfl 19 (by decide) (hts (.fieldLink RX10 53 "VatHouseModel" "tape" "[I") (by decide +kernel)) (fun _ h9 => h9) rfl dX10_skip_12 ?_
        refine lv_aload_n hx hb dX10_skip_15 rfl (lv_at hl 0 rfl) ?_
        refine va_get (D := (dC, dI)) (ci := 10) (v := .int l22) (C := RX10) (T := TX10) (N := 51) hx hb hts inw_X10_skip_10 hown hK hP 0 rfl rfl 22 (by decide) (hts (.fieldLink RX10 168 "VatHouseModel" "at" "I") (by decide +kernel)) (fun _ h9 => h9) rfl dX10_skip_16 ?_
        refine va_iald hx hb hK hP 15 14 rfl rfl (in_i (by omega) (by omega)) dX10_skip_19 ?_
        refine lv_topi (fun z_2 ez_2 => ?_)
        have ez_2 : z_2 = (a 19) l22.toNatClampNeg := ez_2
        refine lv_bipush (v := 32) hx hb dX10_skip_20 (by decide) ?_
        refine lv_icmp_eq (tgt := 39) hx hb dX10_skip_22 (by decide) (fun c_3 => ?_) (fun c_3 => ?_)
        · have nc_3 := eq_i c_3
          have lc_3 : (32 : Int32).toInt = 32 := by decide
          refine lv_aload_n hx hb dX10_skip_39 rfl (lv_at hl 0 rfl) ?_
          refine lv_dup hx hb dX10_skip_40 rfl ?_
          refine va_get (D := (dC, dI)) (ci := 10) (v := .int l22) (C := RX10) (T := TX10) (N := 51) hx hb hts inw_X10_skip_10 hown hK hP 0 rfl rfl 22 (by decide) (hts (.fieldLink RX10 168 "VatHouseModel" "at" "I") (by decide +kernel)) (fun _ h9 => h9) rfl dX10_skip_41 ?_
          refine lv_iconst (v := 1) hx hb dX10_skip_44 (by decide) ?_
          refine lv_iadd hx hb dX10_skip_45 ?_
          refine lv_topi (fun z_4 ez_4 => ?_)
          refine va_put (D := (dC, dI)) (ci := 10) (v := .int z_4) (ty := .int) (C := RX10) (T := TX10) (N := 51) hx hb hts inw_X10_skip_10 tyX10 tyX10_ok nmX10 hown hK hP hD hS 0 rfl rfl 22 (by decide) (hts (.fieldLink RX10 168 "VatHouseModel" "at" "I") (by decide +kernel)) (fun _ h9 => h9) rfl (by decide +kernel) rfl rfl (Nat.le_of_ble_eq_true rfl) dX10_skip_46 (fun H locs hP hD hS => ?_)
          have hP : va_P (dC, dI) vwCl (mw g h0 b (va_up i 22 z_4) a) _ := hP
          have hD : va_D _ (mw g h0 b (va_up i 22 z_4) a) := hD
          refine lv_goto (tgt := 0) hx hb dX10_skip_49 (by decide) ?_
          exact ih z_4 _ _ _ (at_nx hm c_1 ez_4) (by have h9 := incz c_1 ez_4; omega) hP hD hS (lv_sub hl [0] rfl)
        · have nc_3 := ne_i c_3
          have lc_3 : (32 : Int32).toInt = 32 := by decide
          refine lv_aload_n hx hb dX10_skip_25 rfl (lv_at hl 0 rfl) ?_
          refine va_get (D := (dC, dI)) (ci := 10) (v := .ref (b 19)) (C := RX10) (T := TX10) (N := 51) hx hb hts inw_X10_skip_10 hown hK hP 0 rfl rfl 19 (by decide) (hts (.fieldLink RX10 53 "VatHouseModel" "tape" "[I") (by decide +kernel)) (fun _ h9 => h9) rfl dX10_skip_26 ?_
          refine lv_aload_n hx hb dX10_skip_29 rfl (lv_at hl 0 rfl) ?_
          refine va_get (D := (dC, dI)) (ci := 10) (v := .int l22) (C := RX10) (T := TX10) (N := 51) hx hb hts inw_X10_skip_10 hown hK hP 0 rfl rfl 22 (by decide) (hts (.fieldLink RX10 168 "VatHouseModel" "at" "I") (by decide +kernel)) (fun _ h9 => h9) rfl dX10_skip_30 ?_
          refine va_iald hx hb hK hP 15 14 rfl rfl (in_i (by omega) (by omega)) dX10_skip_33 ?_
          refine lv_topi (fun z_5 ez_5 => ?_)
          have ez_5 : z_5 = (a 19) l22.toNatClampNeg := ez_5
          refine lv_bipush (v := 10) hx hb dX10_skip_34 (by decide) ?_
          refine lv_icmp_ne (tgt := 52) hx hb dX10_skip_36 (by decide) (fun c_6 => ?_) (fun c_6 => ?_)
          · have nc_6 := ne_i c_6
            have lc_6 : (10 : Int32).toInt = 10 := by decide
            exact M_v hx hb hr hlocks (l22) hP hD hK hS ⟨rfl, ⟨by omega, by omega⟩⟩ (Nat.le_of_ble_eq_true rfl) (Nat.le_of_ble_eq_true rfl) dX10_skip_52
          · have nc_6 := eq_i c_6
            have lc_6 : (10 : Int32).toInt = 10 := by decide
            refine lv_aload_n hx hb dX10_skip_39 rfl (lv_at hl 0 rfl) ?_
            refine lv_dup hx hb dX10_skip_40 rfl ?_
            refine va_get (D := (dC, dI)) (ci := 10) (v := .int l22) (C := RX10) (T := TX10) (N := 51) hx hb hts inw_X10_skip_10 hown hK hP 0 rfl rfl 22 (by decide) (hts (.fieldLink RX10 168 "VatHouseModel" "at" "I") (by decide +kernel)) (fun _ h9 => h9) rfl dX10_skip_41 ?_
            refine lv_iconst (v := 1) hx hb dX10_skip_44 (by decide) ?_
            refine lv_iadd hx hb dX10_skip_45 ?_
            refine lv_topi (fun z_7 ez_7 => ?_)
            refine va_put (D := (dC, dI)) (ci := 10) (v := .int z_7) (ty := .int) (C := RX10) (T := TX10) (N := 51) hx hb hts inw_X10_skip_10 tyX10 tyX10_ok nmX10 hown hK hP hD hS 0 rfl rfl 22 (by decide) (hts (.fieldLink RX10 168 "VatHouseModel" "at" "I") (by decide +kernel)) (fun _ h9 => h9) rfl (by decide +kernel) rfl rfl (Nat.le_of_ble_eq_true rfl) dX10_skip_46 (fun H locs hP hD hS => ?_)
            have hP : va_P (dC, dI) vwCl (mw g h0 b (va_up i 22 z_7) a) _ := hP
            have hD : va_D _ (mw g h0 b (va_up i 22 z_7) a) := hD
            refine lv_goto (tgt := 0) hx hb dX10_skip_49 (by decide) ?_
            exact ih z_7 _ _ _ (at_nx hm c_1 ez_7) (by have h9 := incz c_1 ez_7; omega) hP hD hS (lv_sub hl [0] rfl)
  exact lp (((i 21).toInt - (i 22).toInt).toNat + 1) (i 22) _ _ _ (by omega) (by omega) hP hD hS (lv_sub hl [0] rfl)

abbrev rm_X10_isSign : Room := { frames := 1, cells := 0, slots := 0, locals := 20 }
theorem inw_X10_isSign_10 : ∀ w ∈ wsX100, w ∈ wsX10_isSign := by decide +kernel
set_option maxHeartbeats 1000000 in
set_option maxRecDepth 100000 in
theorem m_X10_isSign (l : Launch) (dC : Nat → ClassId) (dI : Nat → Nat → Nat) (sa : Nat → Nat) (g : Nat → Nat) (h0 : Nat) (b : Nat → Nat) (i : Nat → Int32) (a : Nat → Nat → Int32) (sg : Int32) (sz : Nat) (hSI : 0 ≤ (i 22).toInt ∧ (i 22).toInt ≤ (i 21).toInt ∧ (i 21).toInt ≤ 1500) : CT l dC dI sa yX10_isSign wsX10_isSign rm_X10_isSign [.ref h0, .int sg] (mw g h0 b i a) (tyM g) sz (fun (r : Option Value) (x22 : Int32) => ((r = some (.int 0) ∧ (True)) ∨ (r = some (.int 1) ∧ (x22.toInt < (i 21).toInt))) ∧ ((i 22).toInt ≤ x22.toInt ∧ x22.toInt ≤ (i 21).toInt)) (fun (x22 : Int32) => mw g h0 b (va_up i 22 x22) a) (fun _ => []) 0 0 := by
  refine CT.start (cc := cX10_isSign) (maxL := 2) (ret := (some .boolean)) (by decide) rfl (Nat.le_of_ble_eq_true rfl) ?_
  intro p e s m below meth c ls hst hP hK hD hev hS hl
  obtain ⟨hx, hb, hr, hml, hts, hown, hlocks, hin⟩ := hst
  have hown : s.vm.findClass RX10 = some m.cls := hown
  have hA : ∀ q : Nat, s.heap.size ≤ q → va_A (mw g h0 b i a) s.heap.size q := fun _ h => Or.inr h
  have hl : lv_has ls 2 [(0, .ref h0), (1, .int sg)] := hl
  refine lv_aload_n hx hb dX10_isSign_0 rfl (lv_at hl 0 rfl) ?_
  refine M_V ⟨hx, hb, hml, hown, hts⟩ (m_X10_skip l dC dI sa g h0 b i a  _ (show 0 ≤ (i 22).toInt ∧ (i 22).toInt ≤ (i 21).toInt ∧ (i 21).toInt ≤ 1500 from by omega)) (cwV 0 hts gX10_isSign_X10_skip rfl rfl rfl (by decide +kernel) ⟨Nat.le_of_ble_eq_true rfl, Nat.le_of_ble_eq_true rfl⟩) hP hD hK hS hA hev rfl rfl rfl rfl hl.1 rfl (Nat.le_of_ble_eq_true rfl) dX10_isSign_1 ⟨(Nat.le_of_ble_eq_true rfl), (Nat.le_of_ble_eq_true rfl)⟩ (fun r u H locs hw hP hD hS => ?_)
  obtain ⟨x22_1, rfl⟩ : ∃ z, z = u := ⟨_, rfl⟩
  have hw : (r = none) ∧ ((i 22).toInt ≤ x22_1.toInt ∧ x22_1.toInt ≤ (i 21).toInt) := hw
  obtain ⟨rfl, hw_2⟩ := hw
  have hP : va_P (dC, dI) vwCl (mw g h0 b (va_up i 22 x22_1) a) _ := hP
  have hD : va_D _ (mw g h0 b (va_up i 22 x22_1) a) := hD
  refine W.eq (g2 := F0 m 4 ls []) rfl ?_
  refine lv_aload_n hx hb dX10_isSign_4 rfl (lv_at hl 0 rfl) ?_
  refine va_get (D := (dC, dI)) (ci := 10) (v := .int x22_1) (C := RX10) (T := TX10) (N := 51) hx hb hts inw_X10_isSign_10 hown hK hP 0 rfl rfl 22 (by decide) (hts (.fieldLink RX10 168 "VatHouseModel" "at" "I") (by decide +kernel)) (fun _ h9 => h9) rfl dX10_isSign_5 ?_
  refine lv_aload_n hx hb dX10_isSign_8 rfl (lv_at hl 0 rfl) ?_
  refine va_get (D := (dC, dI)) (ci := 10) (v := .int (i 21)) (C := RX10) (T := TX10) (N := 51) hx hb hts inw_X10_isSign_10 hown hK hP 0 rfl rfl 21 (by decide) (hts (.fieldLink RX10 171 "VatHouseModel" "size" "I") (by decide +kernel)) (fun _ h9 => h9) rfl dX10_isSign_9 ?_
  refine lv_icmp_ge (tgt := 32) hx hb dX10_isSign_12 (by decide) (fun c_3 => ?_) (fun c_3 => ?_)
  · have nc_3 := le_i c_3
    refine lv_iconst (v := 0) hx hb dX10_isSign_32 (by decide) ?_
    exact M_z hx hb hr rfl hlocks (x22_1) hP hD hK hS ⟨Or.inl ⟨rfl, trivial⟩, ⟨by omega, by omega⟩⟩ (Nat.le_of_ble_eq_true rfl) (Nat.le_of_ble_eq_true rfl) dX10_isSign_33
  · have nc_3 := nle_i c_3
    refine lv_aload_n hx hb dX10_isSign_15 rfl (lv_at hl 0 rfl) ?_
    refine va_get (D := (dC, dI)) (ci := 10) (v := .ref (b 19)) (C := RX10) (T := TX10) (N := 51) hx hb hts inw_X10_isSign_10 hown hK hP 0 rfl rfl 19 (by decide) (hts (.fieldLink RX10 53 "VatHouseModel" "tape" "[I") (by decide +kernel)) (fun _ h9 => h9) rfl dX10_isSign_16 ?_
    refine lv_aload_n hx hb dX10_isSign_19 rfl (lv_at hl 0 rfl) ?_
    refine va_get (D := (dC, dI)) (ci := 10) (v := .int x22_1) (C := RX10) (T := TX10) (N := 51) hx hb hts inw_X10_isSign_10 hown hK hP 0 rfl rfl 22 (by decide) (hts (.fieldLink RX10 168 "VatHouseModel" "at" "I") (by decide +kernel)) (fun _ h9 => h9) rfl dX10_isSign_20 ?_
    refine va_iald hx hb hK hP 15 14 rfl rfl (in_i (by omega) (by omega)) dX10_isSign_23 ?_
    refine lv_topi (fun z_4 ez_4 => ?_)
    have ez_4 : z_4 = (a 19) x22_1.toNatClampNeg := ez_4
    refine lv_iload_n hx hb dX10_isSign_24 rfl (lv_at hl 1 rfl) ?_
    refine lv_icmp_ne (tgt := 32) hx hb dX10_isSign_25 (by decide) (fun c_5 => ?_) (fun c_5 => ?_)
    · have nc_5 := ne_i c_5
      refine lv_iconst (v := 0) hx hb dX10_isSign_32 (by decide) ?_
      exact M_z hx hb hr rfl hlocks (x22_1) hP hD hK hS ⟨Or.inl ⟨rfl, trivial⟩, ⟨by omega, by omega⟩⟩ (Nat.le_of_ble_eq_true rfl) (Nat.le_of_ble_eq_true rfl) dX10_isSign_33
    · have nc_5 := eq_i c_5
      refine lv_iconst (v := 1) hx hb dX10_isSign_28 (by decide) ?_
      refine lv_goto (tgt := 33) hx hb dX10_isSign_29 (by decide) ?_
      exact M_z hx hb hr rfl hlocks (x22_1) hP hD hK hS ⟨Or.inr ⟨rfl, by omega⟩, ⟨by omega, by omega⟩⟩ (Nat.le_of_ble_eq_true rfl) (Nat.le_of_ble_eq_true rfl) dX10_isSign_33

abbrev rm_X10_word : Room := { frames := 4, cells := 0, slots := 0, locals := 141 }
theorem inw_X10_word_10 : ∀ w ∈ wsX100, w ∈ wsX10_word := by decide +kernel
set_option maxHeartbeats 1000000 in
set_option maxRecDepth 100000 in
theorem m_X10_word (l : Launch) (dC : Nat → ClassId) (dI : Nat → Nat → Nat) (sa : Nat → Nat) (g : Nat → Nat) (h0 : Nat) (b : Nat → Nat) (i : Nat → Int32) (a : Nat → Nat → Int32) (sz : Nat) (hSI : 0 ≤ (i 22).toInt ∧ (i 22).toInt ≤ (i 21).toInt ∧ (i 21).toInt ≤ 1500) : CT l dC dI sa yX10_word wsX10_word rm_X10_word [.ref h0] (mw g h0 b i a) (tyM g) sz (fun (r : Option Value) (x22 : Int32) => (∃ z : Int32, r = some (.int z) ∧ (z = -1 ∨ ∃ q : Nat, z = nI q ∧ q ≤ 18 ∧ x22.toInt + (lenS.getD q 0 : Int) ≤ (i 21).toInt)) ∧ ((i 22).toInt ≤ x22.toInt ∧ x22.toInt ≤ (i 21).toInt)) (fun (x22 : Int32) => mw g h0 b (va_up i 22 x22) a) (fun _ => []) 0 0 := by
  refine CT.start (cc := cX10_word) (maxL := 6) (ret := (some .int)) (by decide) rfl (Nat.le_of_ble_eq_true rfl) ?_
  intro p e s m below meth c ls hst hP hK hD hev hS hl
  obtain ⟨hx, hb, hr, hml, hts, hown, hlocks, hin⟩ := hst
  have hown : s.vm.findClass RX10 = some m.cls := hown
  have hA : ∀ q : Nat, s.heap.size ≤ q → va_A (mw g h0 b i a) s.heap.size q := fun _ h => Or.inr h
  have hl : lv_has ls 6 [(0, .ref h0)] := hl
  refine lv_aload_n hx hb dX10_word_0 rfl (lv_at hl 0 rfl) ?_
  refine M_V ⟨hx, hb, hml, hown, hts⟩ (m_X10_skip l dC dI sa g h0 b i a  _ (show 0 ≤ (i 22).toInt ∧ (i 22).toInt ≤ (i 21).toInt ∧ (i 21).toInt ≤ 1500 from by omega)) (cwV 0 hts gX10_word_X10_skip rfl rfl rfl (by decide +kernel) ⟨Nat.le_of_ble_eq_true rfl, Nat.le_of_ble_eq_true rfl⟩) hP hD hK hS hA hev rfl rfl rfl rfl hl.1 rfl (Nat.le_of_ble_eq_true rfl) dX10_word_1 ⟨(Nat.le_of_ble_eq_true rfl), (Nat.le_of_ble_eq_true rfl)⟩ (fun r u H locs hw hP hD hS => ?_)
  obtain ⟨x22_1, rfl⟩ : ∃ z, z = u := ⟨_, rfl⟩
  have hw : (r = none) ∧ ((i 22).toInt ≤ x22_1.toInt ∧ x22_1.toInt ≤ (i 21).toInt) := hw
  obtain ⟨rfl, hw_2⟩ := hw
  have hP : va_P (dC, dI) vwCl (mw g h0 b (va_up i 22 x22_1) a) _ := hP
  have hD : va_D _ (mw g h0 b (va_up i 22 x22_1) a) := hD
  refine W.eq (g2 := F0 m 4 ls []) rfl ?_
  refine lv_aload_n hx hb dX10_word_4 rfl (lv_at hl 0 rfl) ?_
  refine va_get (D := (dC, dI)) (ci := 10) (v := .int x22_1) (C := RX10) (T := TX10) (N := 51) hx hb hts inw_X10_word_10 hown hK hP 0 rfl rfl 22 (by decide) (hts (.fieldLink RX10 168 "VatHouseModel" "at" "I") (by decide +kernel)) (fun _ h9 => h9) rfl dX10_word_5 ?_
  refine lv_istore_n (lv' := [(1, .int x22_1), (0, .ref h0)]) hx hb dX10_word_8 rfl hl (by decide) rfl (fun ls hl => ?_)
  have lpA : ∀ (nA : Nat) (en : Int32) (H : Heap) (locs : List Loc) (ls : Array Slot), (((i 21).toInt - en.toInt).toNat < nA) → (x22_1.toInt ≤ en.toInt ∧ en.toInt ≤ (i 21).toInt) → va_P (dC, dI) vwCl (mw g h0 b (va_up i 22 x22_1) a) H → va_D (va_A (mw g h0 b i a) s.heap.size) (mw g h0 b (va_up i 22 x22_1) a) → va_S (va_A (mw g h0 b i a) s.heap.size) s.heap H locs → lv_has ls 6 [(1, .int en), (0, .ref h0)] → W p l e rm_X10_word s m [.ref h0].toArray below meth c H locs 0 0 (MQ below (Qg (fun (r : Option Value) (x22 : Int32) => (∃ z : Int32, r = some (.int z) ∧ (z = -1 ∨ ∃ q : Nat, z = nI q ∧ q ≤ 18 ∧ x22.toInt + (lenS.getD q 0 : Int) ≤ (i 21).toInt)) ∧ ((i 22).toInt ≤ x22.toInt ∧ x22.toInt ≤ (i 21).toInt)) (fun u t => QW dC dI (va_A (mw g h0 b i a) s.heap.size) ((fun (x22 : Int32) => mw g h0 b (va_up i 22 x22) a) u) [] t) (va_A (mw g h0 b i a) s.heap.size)) [.ref h0].toArray s 0 0 (va_A (mw g h0 b i a) s.heap.size)) (F0 m 9 ls []) := by
    intro nA
    induction nA with
    | zero => intro en H locs ls hmA hen hP hD hS hl; exact absurd hmA (by omega)
    | succ nA ihA =>
      intro en H locs ls hmA hen hP hD hS hl
      refine lv_iload_n hx hb dX10_word_9 rfl (lv_at hl 0 rfl) ?_
      refine lv_aload_n hx hb dX10_word_10 rfl (lv_at hl 1 rfl) ?_
      refine va_get (D := (dC, dI)) (ci := 10) (v := .int (i 21)) (C := RX10) (T := TX10) (N := 51) hx hb hts inw_X10_word_10 hown hK hP 0 rfl rfl 21 (by decide) (hts (.fieldLink RX10 171 "VatHouseModel" "size" "I") (by decide +kernel)) (fun _ h9 => h9) rfl dX10_word_11 ?_
      refine lv_icmp_ge (tgt := 35) hx hb dX10_word_14 (by decide) (fun c_3 => ?_) (fun c_3 => ?_)
      · have nc_3 := le_i c_3
        refine lv_iconst (v := 0) hx hb dX10_word_35 (by decide) ?_
        refine lv_istore_n (lv' := [(2, .int 0), (1, .int en), (0, .ref h0)]) hx hb dX10_word_36 rfl hl (by decide) rfl (fun ls hl => ?_)
        have lpB : ∀ (nB : Nat) (kw : Int32) (H : Heap) (locs : List Loc) (ls : Array Slot), (∃ q : Nat, kw = nI q ∧ q ≤ 18 + 1 ∧ 18 + 1 < q + nB) → va_P (dC, dI) vwCl (mw g h0 b (va_up i 22 x22_1) a) H → va_D (va_A (mw g h0 b i a) s.heap.size) (mw g h0 b (va_up i 22 x22_1) a) → va_S (va_A (mw g h0 b i a) s.heap.size) s.heap H locs → lv_has ls 6 [(2, .int kw), (1, .int en), (0, .ref h0)] → W p l e rm_X10_word s m [.ref h0].toArray below meth c H locs 0 0 (MQ below (Qg (fun (r : Option Value) (x22 : Int32) => (∃ z : Int32, r = some (.int z) ∧ (z = -1 ∨ ∃ q : Nat, z = nI q ∧ q ≤ 18 ∧ x22.toInt + (lenS.getD q 0 : Int) ≤ (i 21).toInt)) ∧ ((i 22).toInt ≤ x22.toInt ∧ x22.toInt ≤ (i 21).toInt)) (fun u t => QW dC dI (va_A (mw g h0 b i a) s.heap.size) ((fun (x22 : Int32) => mw g h0 b (va_up i 22 x22) a) u) [] t) (va_A (mw g h0 b i a) s.heap.size)) [.ref h0].toArray s 0 0 (va_A (mw g h0 b i a) s.heap.size)) (F0 m 37 ls []) := by
          intro nB
          induction nB with
          | zero => intro kw H locs ls hmB  hP hD hS hl; exact absurd hmB (by rintro ⟨q, -, h1, h2⟩; omega)
          | succ nB ihB =>
            intro kw H locs ls hmB  hP hD hS hl
            refine lv_iload_n hx hb dX10_word_37 rfl (lv_at hl 0 rfl) ?_
            refine lv_bipush (v := 18) hx hb dX10_word_38 (by decide) ?_
            refine lv_icmp_gt (tgt := 132) hx hb dX10_word_40 (by decide) (fun c_4 => ?_) (fun c_4 => ?_)
            · have nc_4 := lt_i c_4
              have lc_4 : (18 : Int32).toInt = 18 := by decide
              refine lv_iconst (v := (-1)) hx hb dX10_word_132 (by decide) ?_
              exact M_i hx hb hr hlocks (x22_1) hP hD hK hS ⟨⟨_, rfl, Or.inl rfl⟩, ⟨by omega, by omega⟩⟩ (Nat.le_of_ble_eq_true rfl) (Nat.le_of_ble_eq_true rfl) dX10_word_133
            · have nc_4 := nlt_i c_4
              have lc_4 : (18 : Int32).toInt = 18 := by decide
              refine lv_iload_n hx hb dX10_word_43 rfl (lv_at hl 0 rfl) ?_
              obtain ⟨qb, hqb1, hqb2⟩ := nm_q hmB c_4
              refine pu_S (v := some (.ref (sa (5 + qb)))) ⟨hx, hb, hml, hown, hts⟩ (pu_nameOf l dC dI sa qb hqb2 kw hqb1 _) (va_cwS 1 hts gX10_word_X10_nameOf rfl rfl rfl (by decide +kernel) ⟨Nat.le_of_ble_eq_true rfl, Nat.le_of_ble_eq_true rfl⟩) hP hK hS hA hev rfl hl.1 rfl (Nat.le_of_ble_eq_true rfl) dX10_word_44 ⟨Nat.le_of_ble_eq_true rfl, Nat.le_of_ble_eq_true rfl⟩ (fun H locs hP hS => ?_)
              refine W.eq (g2 := F0 m 47 ls [.ref (sa (5 + qb))]) rfl ?_
              refine lv_astore_n (lv' := [(3, .ref (sa (5 + qb))), (2, .int kw), (1, .int en), (0, .ref h0)]) hx hb dX10_word_47 rfl hl (by decide) rfl (fun ls hl => ?_)
              refine lv_aload_n hx hb dX10_word_48 rfl (lv_at hl 0 rfl) ?_
              refine pu_V (i := qb) (v := some (.int (nI (lenS.getD qb 0)))) ⟨hx, hb, hml, hown, hts⟩ (pu_length l dC dI sa qb _ (by omega)) (cwV 0 hts gX10_word_J0_length_8abf5 rfl rfl rfl (by decide +kernel) ⟨Nat.le_of_ble_eq_true rfl, Nat.le_of_ble_eq_true rfl⟩) hP hK hS hA hev (by omega) rfl hl.1 rfl (Nat.le_of_ble_eq_true rfl) dX10_word_49 ⟨Nat.le_of_ble_eq_true rfl, Nat.le_of_ble_eq_true rfl⟩ (fun H locs hP hS => ?_)
              refine W.eq (g2 := F0 m 52 ls [.int (nI (lenS.getD qb 0))]) rfl ?_
              refine lv_topi (fun z_5 ez_5 => ?_)
              refine lv_iload_n hx hb dX10_word_52 rfl (lv_at hl 2 rfl) ?_
              refine lv_aload_n hx hb dX10_word_53 rfl (lv_at hl 3 rfl) ?_
              refine va_get (D := (dC, dI)) (ci := 10) (v := .int x22_1) (C := RX10) (T := TX10) (N := 51) hx hb hts inw_X10_word_10 hown hK hP 0 rfl rfl 22 (by decide) (hts (.fieldLink RX10 168 "VatHouseModel" "at" "I") (by decide +kernel)) (fun _ h9 => h9) rfl dX10_word_54 ?_
              refine lv_isub hx hb dX10_word_57 ?_
              refine lv_topi (fun z_6 ez_6 => ?_)
              refine lv_icmp_ne (tgt := 65) hx hb dX10_word_58 (by decide) (fun c_7 => ?_) (fun c_7 => ?_)
              · have nc_7 := ne_i c_7
                refine lv_iconst (v := 0) hx hb dX10_word_65 (by decide) ?_
                refine lv_istore (lv' := [(4, .int 0), (3, .ref (sa (5 + qb))), (2, .int kw), (1, .int en), (0, .ref h0)]) hx hb dX10_word_66 hl (by decide) rfl (fun ls hl => ?_)
                refine lv_iconst (v := 0) hx hb dX10_word_68 (by decide) ?_
                refine lv_istore (lv' := [(5, .int 0), (4, .int 0), (3, .ref (sa (5 + qb))), (2, .int kw), (1, .int en), (0, .ref h0)]) hx hb dX10_word_69 hl (by decide) rfl (fun ls hl => ?_)
                have lp : ∀ (n : Nat) (iw : Int32) (ic : Int32) (H : Heap) (locs : List Loc) (ls : Array Slot), (∃ q : Nat, ic = nI q ∧ q ≤ 6 ∧ 6 < q + n) → (iw = 0 ∨ (lenS.getD qb 0 : Int) = en.toInt - x22_1.toInt) → va_P (dC, dI) vwCl (mw g h0 b (va_up i 22 x22_1) a) H → va_D (va_A (mw g h0 b i a) s.heap.size) (mw g h0 b (va_up i 22 x22_1) a) → va_S (va_A (mw g h0 b i a) s.heap.size) s.heap H locs → lv_has ls 6 [(4, .int iw), (5, .int ic), (3, .ref (sa (5 + qb))), (2, .int kw), (1, .int en), (0, .ref h0)] → W p l e rm_X10_word s m [.ref h0].toArray below meth c H locs 0 0 (MQ below (Qg (fun (r : Option Value) (x22 : Int32) => (∃ z : Int32, r = some (.int z) ∧ (z = -1 ∨ ∃ q : Nat, z = nI q ∧ q ≤ 18 ∧ x22.toInt + (lenS.getD q 0 : Int) ≤ (i 21).toInt)) ∧ ((i 22).toInt ≤ x22.toInt ∧ x22.toInt ≤ (i 21).toInt)) (fun u t => QW dC dI (va_A (mw g h0 b i a) s.heap.size) ((fun (x22 : Int32) => mw g h0 b (va_up i 22 x22) a) u) [] t) (va_A (mw g h0 b i a) s.heap.size)) [.ref h0].toArray s 0 0 (va_A (mw g h0 b i a) s.heap.size)) (F0 m 71 ls []) := by
                  intro n
                  induction n with
                  | zero => intro iw ic H locs ls hm hx3 hP hD hS hl; exact absurd hm (by rintro ⟨q, -, h1, h2⟩; omega)
                  | succ n ih =>
                    intro iw ic H locs ls hm hx3 hP hD hS hl
                    refine lv_iload hx hb dX10_word_71 (lv_at hl 1 rfl) ?_
                    refine lv_aload_n hx hb dX10_word_73 rfl (lv_at hl 2 rfl) ?_
                    refine pu_V (i := qb) (v := some (.int (nI (lenS.getD qb 0)))) ⟨hx, hb, hml, hown, hts⟩ (pu_length l dC dI sa qb _ (by omega)) (cwV 0 hts gX10_word_J0_length_8abf5 rfl rfl rfl (by decide +kernel) ⟨Nat.le_of_ble_eq_true rfl, Nat.le_of_ble_eq_true rfl⟩) hP hK hS hA hev (by omega) rfl hl.1 rfl (Nat.le_of_ble_eq_true rfl) dX10_word_74 ⟨Nat.le_of_ble_eq_true rfl, Nat.le_of_ble_eq_true rfl⟩ (fun H locs hP hS => ?_)
                    refine W.eq (g2 := F0 m 77 ls [.int (nI (lenS.getD qb 0)), .int ic]) rfl ?_
                    refine lv_topi (fun z_8 ez_8 => ?_)
                    refine lv_icmp_ge (tgt := 119) hx hb dX10_word_77 (by decide) (fun c_9 => ?_) (fun c_9 => ?_)
                    · have nc_9 := le_i c_9
                      refine lv_iload hx hb dX10_word_119 (lv_at hl 0 rfl) ?_
                      refine lv_if_eq (tgt := 126) hx hb dX10_word_121 (by decide) (fun c_10 => ?_) (fun c_10 => ?_)
                      · have nc_10 := eq_i c_10
                        have lc_10 : (0 : Int32).toInt = 0 := by decide
                        refine lv_iinc (v := (kw + 1)) (lv' := [(2, .int (kw + 1)), (4, .int iw), (5, .int ic), (3, .ref (sa (5 + qb))), (1, .int en), (0, .ref h0)]) hx hb dX10_word_126 hl (k := 3) rfl rfl (by decide) rfl (fun ls hl => ?_)
                        refine lv_goto (tgt := 37) hx hb dX10_word_129 (by decide) ?_
                        exact ihB (kw + 1) _ _ _ (up_le (by decide) hmB c_4)  hP hD hS (lv_sub hl [0, 4, 5] rfl)
                      · have nc_10 := ne_i c_10
                        have lc_10 : (0 : Int32).toInt = 0 := by decide
                        refine lv_iload_n hx hb dX10_word_124 rfl (lv_at hl 3 rfl) ?_
                        exact M_i hx hb hr hlocks (x22_1) hP hD hK hS ⟨⟨_, rfl, Or.inr ⟨qb, hqb1, hqb2, by have h9 := hx3.resolve_left c_10; omega⟩⟩, ⟨by omega, by omega⟩⟩ (Nat.le_of_ble_eq_true rfl) (Nat.le_of_ble_eq_true rfl) dX10_word_125
                    · have nc_9 := nle_i c_9
                      refine lv_iload hx hb dX10_word_80 (lv_at hl 0 rfl) ?_
                      refine lv_if_eq (tgt := 119) hx hb dX10_word_82 (by decide) (fun c_11 => ?_) (fun c_11 => ?_)
                      · have nc_11 := eq_i c_11
                        have lc_11 : (0 : Int32).toInt = 0 := by decide
                        refine lv_iload hx hb dX10_word_119 (lv_at hl 0 rfl) ?_
                        refine lv_if_eq (tgt := 126) hx hb dX10_word_121 (by decide) (fun c_12 => ?_) (fun c_12 => ?_)
                        · have nc_12 := eq_i c_12
                          have lc_12 : (0 : Int32).toInt = 0 := by decide
                          refine lv_iinc (v := (kw + 1)) (lv' := [(2, .int (kw + 1)), (4, .int iw), (5, .int ic), (3, .ref (sa (5 + qb))), (1, .int en), (0, .ref h0)]) hx hb dX10_word_126 hl (k := 3) rfl rfl (by decide) rfl (fun ls hl => ?_)
                          refine lv_goto (tgt := 37) hx hb dX10_word_129 (by decide) ?_
                          exact ihB (kw + 1) _ _ _ (up_le (by decide) hmB c_4)  hP hD hS (lv_sub hl [0, 4, 5] rfl)
                        · have nc_12 := ne_i c_12
                          have lc_12 : (0 : Int32).toInt = 0 := by decide
                          refine lv_iload_n hx hb dX10_word_124 rfl (lv_at hl 3 rfl) ?_
                          exact M_i hx hb hr hlocks (x22_1) hP hD hK hS ⟨⟨_, rfl, Or.inr ⟨qb, hqb1, hqb2, by have h9 := hx3.resolve_left c_12; omega⟩⟩, ⟨by omega, by omega⟩⟩ (Nat.le_of_ble_eq_true rfl) (Nat.le_of_ble_eq_true rfl) dX10_word_125
                      · have nc_11 := ne_i c_11
                        have lc_11 : (0 : Int32).toInt = 0 := by decide
                        refine lv_aload_n hx hb dX10_word_85 rfl (lv_at hl 2 rfl) ?_
                        refine lv_iload hx hb dX10_word_86 (lv_at hl 1 rfl) ?_
                        obtain ⟨ks_13, hks_14, hks_15⟩ : ∃ k : Nat, ic = nI k ∧ k < lenS.getD qb 0 := by obtain ⟨q9, g1, g2, g3⟩ := hm; have g4 := c_9; rw [ez_8, g1] at g4; have g5 := lenS_le qb hqb2; rw [nI_leI (by omega) (by omega)] at g4; exact ⟨q9, g1, by omega⟩
                        refine pu_V (i := qb) (v := some (.int (chS qb ks_13))) ⟨hx, hb, hml, hown, hts⟩ (pu_charAtX l dC dI sa qb ks_13 ic _ hks_14 (by omega) hks_15) (cwV 1 hts gX10_word_J0_charAt_5068e rfl rfl rfl (by decide +kernel) ⟨Nat.le_of_ble_eq_true rfl, Nat.le_of_ble_eq_true rfl⟩) hP hK hS hA hev (by omega) rfl hl.1 rfl (Nat.le_of_ble_eq_true rfl) dX10_word_88 ⟨Nat.le_of_ble_eq_true rfl, Nat.le_of_ble_eq_true rfl⟩ (fun H locs hP hS => ?_)
                        refine W.eq (g2 := F0 m 91 ls [.int (chS qb ks_13)]) rfl ?_
                        refine lv_topi (fun z_16 ez_16 => ?_)
                        refine lv_aload_n hx hb dX10_word_91 rfl (lv_at hl 5 rfl) ?_
                        refine va_get (D := (dC, dI)) (ci := 10) (v := .ref (b 19)) (C := RX10) (T := TX10) (N := 51) hx hb hts inw_X10_word_10 hown hK hP 0 rfl rfl 19 (by decide) (hts (.fieldLink RX10 53 "VatHouseModel" "tape" "[I") (by decide +kernel)) (fun _ h9 => h9) rfl dX10_word_92 ?_
                        refine lv_aload_n hx hb dX10_word_95 rfl (lv_at hl 5 rfl) ?_
                        refine va_get (D := (dC, dI)) (ci := 10) (v := .int x22_1) (C := RX10) (T := TX10) (N := 51) hx hb hts inw_X10_word_10 hown hK hP 0 rfl rfl 22 (by decide) (hts (.fieldLink RX10 168 "VatHouseModel" "at" "I") (by decide +kernel)) (fun _ h9 => h9) rfl dX10_word_96 ?_
                        refine lv_iload hx hb dX10_word_99 (lv_at hl 1 rfl) ?_
                        refine lv_iadd hx hb dX10_word_101 ?_
                        refine lv_topi (fun z_17 ez_17 => ?_)
                        have hlen := hx3.resolve_left c_11
                        have hic : 0 ≤ ic.toInt ∧ ic.toInt < (lenS.getD qb 0 : Int) := by
                          obtain ⟨q9, g1, g2, g3⟩ := hm
                          have g4 := c_9
                          rw [ez_8, g1] at g4
                          have g5 := lenS_le qb hqb2
                          rw [nI_leI (by omega) (by omega)] at g4
                          rw [g1, nI_toInt (by omega)]
                          omega
                        have tz_17 := add_i ez_17 (by omega) (by omega)
                        refine va_iald hx hb hK hP 15 14 rfl rfl (in_i (by omega) (by omega)) dX10_word_102 ?_
                        refine lv_topi (fun z_18 ez_18 => ?_)
                        have ez_18 : z_18 = (a 19) z_17.toNatClampNeg := ez_18
                        refine lv_icmp_ne (tgt := 110) hx hb dX10_word_103 (by decide) (fun c_19 => ?_) (fun c_19 => ?_)
                        · have nc_19 := ne_i c_19
                          refine lv_iconst (v := 0) hx hb dX10_word_110 (by decide) ?_
                          refine lv_istore (lv' := [(4, .int 0), (5, .int ic), (3, .ref (sa (5 + qb))), (2, .int kw), (1, .int en), (0, .ref h0)]) hx hb dX10_word_111 hl (by decide) rfl (fun ls hl => ?_)
                          refine lv_iinc (v := (ic + 1)) (lv' := [(5, .int (ic + 1)), (4, .int 0), (3, .ref (sa (5 + qb))), (2, .int kw), (1, .int en), (0, .ref h0)]) hx hb dX10_word_113 hl (k := 1) rfl rfl (by decide) rfl (fun ls hl => ?_)
                          refine lv_goto (tgt := 71) hx hb dX10_word_116 (by decide) ?_
                          exact ih (0 : Int32) (ic + 1) _ _ _ (up_nx (by decide) hm (by rw [ez_8]; exact nI_le (lenS_le qb hqb2) (by decide)) c_9) (Or.inl rfl) hP hD hS (lv_sub hl [1, 0, 2, 3, 4, 5] rfl)
                        · have nc_19 := eq_i c_19
                          refine lv_iconst (v := 1) hx hb dX10_word_106 (by decide) ?_
                          refine lv_goto (tgt := 111) hx hb dX10_word_107 (by decide) ?_
                          refine lv_istore (lv' := [(4, .int 1), (5, .int ic), (3, .ref (sa (5 + qb))), (2, .int kw), (1, .int en), (0, .ref h0)]) hx hb dX10_word_111 hl (by decide) rfl (fun ls hl => ?_)
                          refine lv_iinc (v := (ic + 1)) (lv' := [(5, .int (ic + 1)), (4, .int 1), (3, .ref (sa (5 + qb))), (2, .int kw), (1, .int en), (0, .ref h0)]) hx hb dX10_word_113 hl (k := 1) rfl rfl (by decide) rfl (fun ls hl => ?_)
                          refine lv_goto (tgt := 71) hx hb dX10_word_116 (by decide) ?_
                          exact ih (1 : Int32) (ic + 1) _ _ _ (up_nx (by decide) hm (by rw [ez_8]; exact nI_le (lenS_le qb hqb2) (by decide)) c_9) (Or.inr (hx3.resolve_left c_11)) hP hD hS (lv_sub hl [1, 0, 2, 3, 4, 5] rfl)
                exact lp 7 (0 : Int32) (0 : Int32) _ _ _ (⟨0, nI_0.symm, by omega, by omega⟩) (Or.inl rfl) hP hD hS (lv_sub hl [1, 0, 2, 3, 4, 5] rfl)
              · have nc_7 := eq_i c_7
                refine lv_iconst (v := 1) hx hb dX10_word_61 (by decide) ?_
                refine lv_goto (tgt := 66) hx hb dX10_word_62 (by decide) ?_
                refine lv_istore (lv' := [(4, .int 1), (3, .ref (sa (5 + qb))), (2, .int kw), (1, .int en), (0, .ref h0)]) hx hb dX10_word_66 hl (by decide) rfl (fun ls hl => ?_)
                refine lv_iconst (v := 0) hx hb dX10_word_68 (by decide) ?_
                refine lv_istore (lv' := [(5, .int 0), (4, .int 1), (3, .ref (sa (5 + qb))), (2, .int kw), (1, .int en), (0, .ref h0)]) hx hb dX10_word_69 hl (by decide) rfl (fun ls hl => ?_)
                have lp : ∀ (n : Nat) (iw : Int32) (ic : Int32) (H : Heap) (locs : List Loc) (ls : Array Slot), (∃ q : Nat, ic = nI q ∧ q ≤ 6 ∧ 6 < q + n) → (iw = 0 ∨ (lenS.getD qb 0 : Int) = en.toInt - x22_1.toInt) → va_P (dC, dI) vwCl (mw g h0 b (va_up i 22 x22_1) a) H → va_D (va_A (mw g h0 b i a) s.heap.size) (mw g h0 b (va_up i 22 x22_1) a) → va_S (va_A (mw g h0 b i a) s.heap.size) s.heap H locs → lv_has ls 6 [(4, .int iw), (5, .int ic), (3, .ref (sa (5 + qb))), (2, .int kw), (1, .int en), (0, .ref h0)] → W p l e rm_X10_word s m [.ref h0].toArray below meth c H locs 0 0 (MQ below (Qg (fun (r : Option Value) (x22 : Int32) => (∃ z : Int32, r = some (.int z) ∧ (z = -1 ∨ ∃ q : Nat, z = nI q ∧ q ≤ 18 ∧ x22.toInt + (lenS.getD q 0 : Int) ≤ (i 21).toInt)) ∧ ((i 22).toInt ≤ x22.toInt ∧ x22.toInt ≤ (i 21).toInt)) (fun u t => QW dC dI (va_A (mw g h0 b i a) s.heap.size) ((fun (x22 : Int32) => mw g h0 b (va_up i 22 x22) a) u) [] t) (va_A (mw g h0 b i a) s.heap.size)) [.ref h0].toArray s 0 0 (va_A (mw g h0 b i a) s.heap.size)) (F0 m 71 ls []) := by
                  intro n
                  induction n with
                  | zero => intro iw ic H locs ls hm hx3 hP hD hS hl; exact absurd hm (by rintro ⟨q, -, h1, h2⟩; omega)
                  | succ n ih =>
                    intro iw ic H locs ls hm hx3 hP hD hS hl
                    refine lv_iload hx hb dX10_word_71 (lv_at hl 1 rfl) ?_
                    refine lv_aload_n hx hb dX10_word_73 rfl (lv_at hl 2 rfl) ?_
                    refine pu_V (i := qb) (v := some (.int (nI (lenS.getD qb 0)))) ⟨hx, hb, hml, hown, hts⟩ (pu_length l dC dI sa qb _ (by omega)) (cwV 0 hts gX10_word_J0_length_8abf5 rfl rfl rfl (by decide +kernel) ⟨Nat.le_of_ble_eq_true rfl, Nat.le_of_ble_eq_true rfl⟩) hP hK hS hA hev (by omega) rfl hl.1 rfl (Nat.le_of_ble_eq_true rfl) dX10_word_74 ⟨Nat.le_of_ble_eq_true rfl, Nat.le_of_ble_eq_true rfl⟩ (fun H locs hP hS => ?_)
                    refine W.eq (g2 := F0 m 77 ls [.int (nI (lenS.getD qb 0)), .int ic]) rfl ?_
                    refine lv_topi (fun z_20 ez_20 => ?_)
                    refine lv_icmp_ge (tgt := 119) hx hb dX10_word_77 (by decide) (fun c_21 => ?_) (fun c_21 => ?_)
                    · have nc_21 := le_i c_21
                      refine lv_iload hx hb dX10_word_119 (lv_at hl 0 rfl) ?_
                      refine lv_if_eq (tgt := 126) hx hb dX10_word_121 (by decide) (fun c_22 => ?_) (fun c_22 => ?_)
                      · have nc_22 := eq_i c_22
                        have lc_22 : (0 : Int32).toInt = 0 := by decide
                        refine lv_iinc (v := (kw + 1)) (lv' := [(2, .int (kw + 1)), (4, .int iw), (5, .int ic), (3, .ref (sa (5 + qb))), (1, .int en), (0, .ref h0)]) hx hb dX10_word_126 hl (k := 3) rfl rfl (by decide) rfl (fun ls hl => ?_)
                        refine lv_goto (tgt := 37) hx hb dX10_word_129 (by decide) ?_
                        exact ihB (kw + 1) _ _ _ (up_le (by decide) hmB c_4)  hP hD hS (lv_sub hl [0, 4, 5] rfl)
                      · have nc_22 := ne_i c_22
                        have lc_22 : (0 : Int32).toInt = 0 := by decide
                        refine lv_iload_n hx hb dX10_word_124 rfl (lv_at hl 3 rfl) ?_
                        exact M_i hx hb hr hlocks (x22_1) hP hD hK hS ⟨⟨_, rfl, Or.inr ⟨qb, hqb1, hqb2, by have h9 := hx3.resolve_left c_22; omega⟩⟩, ⟨by omega, by omega⟩⟩ (Nat.le_of_ble_eq_true rfl) (Nat.le_of_ble_eq_true rfl) dX10_word_125
                    · have nc_21 := nle_i c_21
                      refine lv_iload hx hb dX10_word_80 (lv_at hl 0 rfl) ?_
                      refine lv_if_eq (tgt := 119) hx hb dX10_word_82 (by decide) (fun c_23 => ?_) (fun c_23 => ?_)
                      · have nc_23 := eq_i c_23
                        have lc_23 : (0 : Int32).toInt = 0 := by decide
                        refine lv_iload hx hb dX10_word_119 (lv_at hl 0 rfl) ?_
                        refine lv_if_eq (tgt := 126) hx hb dX10_word_121 (by decide) (fun c_24 => ?_) (fun c_24 => ?_)
                        · have nc_24 := eq_i c_24
                          have lc_24 : (0 : Int32).toInt = 0 := by decide
                          refine lv_iinc (v := (kw + 1)) (lv' := [(2, .int (kw + 1)), (4, .int iw), (5, .int ic), (3, .ref (sa (5 + qb))), (1, .int en), (0, .ref h0)]) hx hb dX10_word_126 hl (k := 3) rfl rfl (by decide) rfl (fun ls hl => ?_)
                          refine lv_goto (tgt := 37) hx hb dX10_word_129 (by decide) ?_
                          exact ihB (kw + 1) _ _ _ (up_le (by decide) hmB c_4)  hP hD hS (lv_sub hl [0, 4, 5] rfl)
                        · have nc_24 := ne_i c_24
                          have lc_24 : (0 : Int32).toInt = 0 := by decide
                          refine lv_iload_n hx hb dX10_word_124 rfl (lv_at hl 3 rfl) ?_
                          exact M_i hx hb hr hlocks (x22_1) hP hD hK hS ⟨⟨_, rfl, Or.inr ⟨qb, hqb1, hqb2, by have h9 := hx3.resolve_left c_24; omega⟩⟩, ⟨by omega, by omega⟩⟩ (Nat.le_of_ble_eq_true rfl) (Nat.le_of_ble_eq_true rfl) dX10_word_125
                      · have nc_23 := ne_i c_23
                        have lc_23 : (0 : Int32).toInt = 0 := by decide
                        refine lv_aload_n hx hb dX10_word_85 rfl (lv_at hl 2 rfl) ?_
                        refine lv_iload hx hb dX10_word_86 (lv_at hl 1 rfl) ?_
                        obtain ⟨ks_25, hks_26, hks_27⟩ : ∃ k : Nat, ic = nI k ∧ k < lenS.getD qb 0 := by obtain ⟨q9, g1, g2, g3⟩ := hm; have g4 := c_21; rw [ez_20, g1] at g4; have g5 := lenS_le qb hqb2; rw [nI_leI (by omega) (by omega)] at g4; exact ⟨q9, g1, by omega⟩
                        refine pu_V (i := qb) (v := some (.int (chS qb ks_25))) ⟨hx, hb, hml, hown, hts⟩ (pu_charAtX l dC dI sa qb ks_25 ic _ hks_26 (by omega) hks_27) (cwV 1 hts gX10_word_J0_charAt_5068e rfl rfl rfl (by decide +kernel) ⟨Nat.le_of_ble_eq_true rfl, Nat.le_of_ble_eq_true rfl⟩) hP hK hS hA hev (by omega) rfl hl.1 rfl (Nat.le_of_ble_eq_true rfl) dX10_word_88 ⟨Nat.le_of_ble_eq_true rfl, Nat.le_of_ble_eq_true rfl⟩ (fun H locs hP hS => ?_)
                        refine W.eq (g2 := F0 m 91 ls [.int (chS qb ks_25)]) rfl ?_
                        refine lv_topi (fun z_28 ez_28 => ?_)
                        refine lv_aload_n hx hb dX10_word_91 rfl (lv_at hl 5 rfl) ?_
                        refine va_get (D := (dC, dI)) (ci := 10) (v := .ref (b 19)) (C := RX10) (T := TX10) (N := 51) hx hb hts inw_X10_word_10 hown hK hP 0 rfl rfl 19 (by decide) (hts (.fieldLink RX10 53 "VatHouseModel" "tape" "[I") (by decide +kernel)) (fun _ h9 => h9) rfl dX10_word_92 ?_
                        refine lv_aload_n hx hb dX10_word_95 rfl (lv_at hl 5 rfl) ?_
                        refine va_get (D := (dC, dI)) (ci := 10) (v := .int x22_1) (C := RX10) (T := TX10) (N := 51) hx hb hts inw_X10_word_10 hown hK hP 0 rfl rfl 22 (by decide) (hts (.fieldLink RX10 168 "VatHouseModel" "at" "I") (by decide +kernel)) (fun _ h9 => h9) rfl dX10_word_96 ?_
                        refine lv_iload hx hb dX10_word_99 (lv_at hl 1 rfl) ?_
                        refine lv_iadd hx hb dX10_word_101 ?_
                        refine lv_topi (fun z_29 ez_29 => ?_)
                        have hlen := hx3.resolve_left c_23
                        have hic : 0 ≤ ic.toInt ∧ ic.toInt < (lenS.getD qb 0 : Int) := by
                          obtain ⟨q9, g1, g2, g3⟩ := hm
                          have g4 := c_21
                          rw [ez_20, g1] at g4
                          have g5 := lenS_le qb hqb2
                          rw [nI_leI (by omega) (by omega)] at g4
                          rw [g1, nI_toInt (by omega)]
                          omega
                        have tz_29 := add_i ez_29 (by omega) (by omega)
                        refine va_iald hx hb hK hP 15 14 rfl rfl (in_i (by omega) (by omega)) dX10_word_102 ?_
                        refine lv_topi (fun z_30 ez_30 => ?_)
                        have ez_30 : z_30 = (a 19) z_29.toNatClampNeg := ez_30
                        refine lv_icmp_ne (tgt := 110) hx hb dX10_word_103 (by decide) (fun c_31 => ?_) (fun c_31 => ?_)
                        · have nc_31 := ne_i c_31
                          refine lv_iconst (v := 0) hx hb dX10_word_110 (by decide) ?_
                          refine lv_istore (lv' := [(4, .int 0), (5, .int ic), (3, .ref (sa (5 + qb))), (2, .int kw), (1, .int en), (0, .ref h0)]) hx hb dX10_word_111 hl (by decide) rfl (fun ls hl => ?_)
                          refine lv_iinc (v := (ic + 1)) (lv' := [(5, .int (ic + 1)), (4, .int 0), (3, .ref (sa (5 + qb))), (2, .int kw), (1, .int en), (0, .ref h0)]) hx hb dX10_word_113 hl (k := 1) rfl rfl (by decide) rfl (fun ls hl => ?_)
                          refine lv_goto (tgt := 71) hx hb dX10_word_116 (by decide) ?_
                          exact ih (0 : Int32) (ic + 1) _ _ _ (up_nx (by decide) hm (by rw [ez_20]; exact nI_le (lenS_le qb hqb2) (by decide)) c_21) (Or.inl rfl) hP hD hS (lv_sub hl [1, 0, 2, 3, 4, 5] rfl)
                        · have nc_31 := eq_i c_31
                          refine lv_iconst (v := 1) hx hb dX10_word_106 (by decide) ?_
                          refine lv_goto (tgt := 111) hx hb dX10_word_107 (by decide) ?_
                          refine lv_istore (lv' := [(4, .int 1), (5, .int ic), (3, .ref (sa (5 + qb))), (2, .int kw), (1, .int en), (0, .ref h0)]) hx hb dX10_word_111 hl (by decide) rfl (fun ls hl => ?_)
                          refine lv_iinc (v := (ic + 1)) (lv' := [(5, .int (ic + 1)), (4, .int 1), (3, .ref (sa (5 + qb))), (2, .int kw), (1, .int en), (0, .ref h0)]) hx hb dX10_word_113 hl (k := 1) rfl rfl (by decide) rfl (fun ls hl => ?_)
                          refine lv_goto (tgt := 71) hx hb dX10_word_116 (by decide) ?_
                          exact ih (1 : Int32) (ic + 1) _ _ _ (up_nx (by decide) hm (by rw [ez_20]; exact nI_le (lenS_le qb hqb2) (by decide)) c_21) (Or.inr (hx3.resolve_left c_23)) hP hD hS (lv_sub hl [1, 0, 2, 3, 4, 5] rfl)
                exact lp 7 (1 : Int32) (0 : Int32) _ _ _ (⟨0, nI_0.symm, by omega, by omega⟩) (Or.inr (wd_len ez_5 ez_6 c_7 (by have := lenS_le qb hqb2; omega) (by omega) (by omega))) hP hD hS (lv_sub hl [1, 0, 2, 3, 4, 5] rfl)
        exact lpB 20 (0 : Int32) _ _ _ (⟨0, nI_0.symm, by omega, by omega⟩)  hP hD hS (lv_sub hl [0, 1, 2] rfl)
      · have nc_3 := nle_i c_3
        refine lv_aload_n hx hb dX10_word_17 rfl (lv_at hl 1 rfl) ?_
        refine va_get (D := (dC, dI)) (ci := 10) (v := .ref (b 19)) (C := RX10) (T := TX10) (N := 51) hx hb hts inw_X10_word_10 hown hK hP 0 rfl rfl 19 (by decide) (hts (.fieldLink RX10 53 "VatHouseModel" "tape" "[I") (by decide +kernel)) (fun _ h9 => h9) rfl dX10_word_18 ?_
        refine lv_iload_n hx hb dX10_word_21 rfl (lv_at hl 0 rfl) ?_
        refine va_iald hx hb hK hP 15 14 rfl rfl (in_i (by omega) (by omega)) dX10_word_22 ?_
        refine lv_topi (fun z_32 ez_32 => ?_)
        have ez_32 : z_32 = (a 19) en.toNatClampNeg := ez_32
        obtain ⟨zl_33, hzl_34, Ml_35⟩ := pu_isLetter l dC dI sa z_32
        refine pu_S ⟨hx, hb, hml, hown, hts⟩ (Ml_35 _) (va_cwS 1 hts gX10_word_X10_isLetter rfl rfl rfl (by decide +kernel) ⟨Nat.le_of_ble_eq_true rfl, Nat.le_of_ble_eq_true rfl⟩) hP hK hS hA hev rfl hl.1 rfl (Nat.le_of_ble_eq_true rfl) dX10_word_23 ⟨Nat.le_of_ble_eq_true rfl, Nat.le_of_ble_eq_true rfl⟩ (fun H locs hP hS => ?_)
        refine W.eq (g2 := F0 m 26 ls [.int zl_33]) rfl ?_
        refine lv_if_eq (tgt := 35) hx hb dX10_word_26 (by decide) (fun c_36 => ?_) (fun c_36 => ?_)
        · have nc_36 := eq_i c_36
          have lc_36 : (0 : Int32).toInt = 0 := by decide
          refine lv_iconst (v := 0) hx hb dX10_word_35 (by decide) ?_
          refine lv_istore_n (lv' := [(2, .int 0), (1, .int en), (0, .ref h0)]) hx hb dX10_word_36 rfl hl (by decide) rfl (fun ls hl => ?_)
          have lpB : ∀ (nB : Nat) (kw : Int32) (H : Heap) (locs : List Loc) (ls : Array Slot), (∃ q : Nat, kw = nI q ∧ q ≤ 18 + 1 ∧ 18 + 1 < q + nB) → va_P (dC, dI) vwCl (mw g h0 b (va_up i 22 x22_1) a) H → va_D (va_A (mw g h0 b i a) s.heap.size) (mw g h0 b (va_up i 22 x22_1) a) → va_S (va_A (mw g h0 b i a) s.heap.size) s.heap H locs → lv_has ls 6 [(2, .int kw), (1, .int en), (0, .ref h0)] → W p l e rm_X10_word s m [.ref h0].toArray below meth c H locs 0 0 (MQ below (Qg (fun (r : Option Value) (x22 : Int32) => (∃ z : Int32, r = some (.int z) ∧ (z = -1 ∨ ∃ q : Nat, z = nI q ∧ q ≤ 18 ∧ x22.toInt + (lenS.getD q 0 : Int) ≤ (i 21).toInt)) ∧ ((i 22).toInt ≤ x22.toInt ∧ x22.toInt ≤ (i 21).toInt)) (fun u t => QW dC dI (va_A (mw g h0 b i a) s.heap.size) ((fun (x22 : Int32) => mw g h0 b (va_up i 22 x22) a) u) [] t) (va_A (mw g h0 b i a) s.heap.size)) [.ref h0].toArray s 0 0 (va_A (mw g h0 b i a) s.heap.size)) (F0 m 37 ls []) := by
            intro nB
            induction nB with
            | zero => intro kw H locs ls hmB  hP hD hS hl; exact absurd hmB (by rintro ⟨q, -, h1, h2⟩; omega)
            | succ nB ihB =>
              intro kw H locs ls hmB  hP hD hS hl
              refine lv_iload_n hx hb dX10_word_37 rfl (lv_at hl 0 rfl) ?_
              refine lv_bipush (v := 18) hx hb dX10_word_38 (by decide) ?_
              refine lv_icmp_gt (tgt := 132) hx hb dX10_word_40 (by decide) (fun c_37 => ?_) (fun c_37 => ?_)
              · have nc_37 := lt_i c_37
                have lc_37 : (18 : Int32).toInt = 18 := by decide
                refine lv_iconst (v := (-1)) hx hb dX10_word_132 (by decide) ?_
                exact M_i hx hb hr hlocks (x22_1) hP hD hK hS ⟨⟨_, rfl, Or.inl rfl⟩, ⟨by omega, by omega⟩⟩ (Nat.le_of_ble_eq_true rfl) (Nat.le_of_ble_eq_true rfl) dX10_word_133
              · have nc_37 := nlt_i c_37
                have lc_37 : (18 : Int32).toInt = 18 := by decide
                refine lv_iload_n hx hb dX10_word_43 rfl (lv_at hl 0 rfl) ?_
                obtain ⟨qb, hqb1, hqb2⟩ := nm_q hmB c_37
                refine pu_S (v := some (.ref (sa (5 + qb)))) ⟨hx, hb, hml, hown, hts⟩ (pu_nameOf l dC dI sa qb hqb2 kw hqb1 _) (va_cwS 1 hts gX10_word_X10_nameOf rfl rfl rfl (by decide +kernel) ⟨Nat.le_of_ble_eq_true rfl, Nat.le_of_ble_eq_true rfl⟩) hP hK hS hA hev rfl hl.1 rfl (Nat.le_of_ble_eq_true rfl) dX10_word_44 ⟨Nat.le_of_ble_eq_true rfl, Nat.le_of_ble_eq_true rfl⟩ (fun H locs hP hS => ?_)
                refine W.eq (g2 := F0 m 47 ls [.ref (sa (5 + qb))]) rfl ?_
                refine lv_astore_n (lv' := [(3, .ref (sa (5 + qb))), (2, .int kw), (1, .int en), (0, .ref h0)]) hx hb dX10_word_47 rfl hl (by decide) rfl (fun ls hl => ?_)
                refine lv_aload_n hx hb dX10_word_48 rfl (lv_at hl 0 rfl) ?_
                refine pu_V (i := qb) (v := some (.int (nI (lenS.getD qb 0)))) ⟨hx, hb, hml, hown, hts⟩ (pu_length l dC dI sa qb _ (by omega)) (cwV 0 hts gX10_word_J0_length_8abf5 rfl rfl rfl (by decide +kernel) ⟨Nat.le_of_ble_eq_true rfl, Nat.le_of_ble_eq_true rfl⟩) hP hK hS hA hev (by omega) rfl hl.1 rfl (Nat.le_of_ble_eq_true rfl) dX10_word_49 ⟨Nat.le_of_ble_eq_true rfl, Nat.le_of_ble_eq_true rfl⟩ (fun H locs hP hS => ?_)
                refine W.eq (g2 := F0 m 52 ls [.int (nI (lenS.getD qb 0))]) rfl ?_
                refine lv_topi (fun z_38 ez_38 => ?_)
                refine lv_iload_n hx hb dX10_word_52 rfl (lv_at hl 2 rfl) ?_
                refine lv_aload_n hx hb dX10_word_53 rfl (lv_at hl 3 rfl) ?_
                refine va_get (D := (dC, dI)) (ci := 10) (v := .int x22_1) (C := RX10) (T := TX10) (N := 51) hx hb hts inw_X10_word_10 hown hK hP 0 rfl rfl 22 (by decide) (hts (.fieldLink RX10 168 "VatHouseModel" "at" "I") (by decide +kernel)) (fun _ h9 => h9) rfl dX10_word_54 ?_
                refine lv_isub hx hb dX10_word_57 ?_
                refine lv_topi (fun z_39 ez_39 => ?_)
                refine lv_icmp_ne (tgt := 65) hx hb dX10_word_58 (by decide) (fun c_40 => ?_) (fun c_40 => ?_)
                · have nc_40 := ne_i c_40
                  refine lv_iconst (v := 0) hx hb dX10_word_65 (by decide) ?_
                  refine lv_istore (lv' := [(4, .int 0), (3, .ref (sa (5 + qb))), (2, .int kw), (1, .int en), (0, .ref h0)]) hx hb dX10_word_66 hl (by decide) rfl (fun ls hl => ?_)
                  refine lv_iconst (v := 0) hx hb dX10_word_68 (by decide) ?_
                  refine lv_istore (lv' := [(5, .int 0), (4, .int 0), (3, .ref (sa (5 + qb))), (2, .int kw), (1, .int en), (0, .ref h0)]) hx hb dX10_word_69 hl (by decide) rfl (fun ls hl => ?_)
                  have lp : ∀ (n : Nat) (iw : Int32) (ic : Int32) (H : Heap) (locs : List Loc) (ls : Array Slot), (∃ q : Nat, ic = nI q ∧ q ≤ 6 ∧ 6 < q + n) → (iw = 0 ∨ (lenS.getD qb 0 : Int) = en.toInt - x22_1.toInt) → va_P (dC, dI) vwCl (mw g h0 b (va_up i 22 x22_1) a) H → va_D (va_A (mw g h0 b i a) s.heap.size) (mw g h0 b (va_up i 22 x22_1) a) → va_S (va_A (mw g h0 b i a) s.heap.size) s.heap H locs → lv_has ls 6 [(4, .int iw), (5, .int ic), (3, .ref (sa (5 + qb))), (2, .int kw), (1, .int en), (0, .ref h0)] → W p l e rm_X10_word s m [.ref h0].toArray below meth c H locs 0 0 (MQ below (Qg (fun (r : Option Value) (x22 : Int32) => (∃ z : Int32, r = some (.int z) ∧ (z = -1 ∨ ∃ q : Nat, z = nI q ∧ q ≤ 18 ∧ x22.toInt + (lenS.getD q 0 : Int) ≤ (i 21).toInt)) ∧ ((i 22).toInt ≤ x22.toInt ∧ x22.toInt ≤ (i 21).toInt)) (fun u t => QW dC dI (va_A (mw g h0 b i a) s.heap.size) ((fun (x22 : Int32) => mw g h0 b (va_up i 22 x22) a) u) [] t) (va_A (mw g h0 b i a) s.heap.size)) [.ref h0].toArray s 0 0 (va_A (mw g h0 b i a) s.heap.size)) (F0 m 71 ls []) := by
                    intro n
                    induction n with
                    | zero => intro iw ic H locs ls hm hx3 hP hD hS hl; exact absurd hm (by rintro ⟨q, -, h1, h2⟩; omega)
                    | succ n ih =>
                      intro iw ic H locs ls hm hx3 hP hD hS hl
                      refine lv_iload hx hb dX10_word_71 (lv_at hl 1 rfl) ?_
                      refine lv_aload_n hx hb dX10_word_73 rfl (lv_at hl 2 rfl) ?_
                      refine pu_V (i := qb) (v := some (.int (nI (lenS.getD qb 0)))) ⟨hx, hb, hml, hown, hts⟩ (pu_length l dC dI sa qb _ (by omega)) (cwV 0 hts gX10_word_J0_length_8abf5 rfl rfl rfl (by decide +kernel) ⟨Nat.le_of_ble_eq_true rfl, Nat.le_of_ble_eq_true rfl⟩) hP hK hS hA hev (by omega) rfl hl.1 rfl (Nat.le_of_ble_eq_true rfl) dX10_word_74 ⟨Nat.le_of_ble_eq_true rfl, Nat.le_of_ble_eq_true rfl⟩ (fun H locs hP hS => ?_)
                      refine W.eq (g2 := F0 m 77 ls [.int (nI (lenS.getD qb 0)), .int ic]) rfl ?_
                      refine lv_topi (fun z_41 ez_41 => ?_)
                      refine lv_icmp_ge (tgt := 119) hx hb dX10_word_77 (by decide) (fun c_42 => ?_) (fun c_42 => ?_)
                      · have nc_42 := le_i c_42
                        refine lv_iload hx hb dX10_word_119 (lv_at hl 0 rfl) ?_
                        refine lv_if_eq (tgt := 126) hx hb dX10_word_121 (by decide) (fun c_43 => ?_) (fun c_43 => ?_)
                        · have nc_43 := eq_i c_43
                          have lc_43 : (0 : Int32).toInt = 0 := by decide
                          refine lv_iinc (v := (kw + 1)) (lv' := [(2, .int (kw + 1)), (4, .int iw), (5, .int ic), (3, .ref (sa (5 + qb))), (1, .int en), (0, .ref h0)]) hx hb dX10_word_126 hl (k := 3) rfl rfl (by decide) rfl (fun ls hl => ?_)
                          refine lv_goto (tgt := 37) hx hb dX10_word_129 (by decide) ?_
                          exact ihB (kw + 1) _ _ _ (up_le (by decide) hmB c_37)  hP hD hS (lv_sub hl [0, 4, 5] rfl)
                        · have nc_43 := ne_i c_43
                          have lc_43 : (0 : Int32).toInt = 0 := by decide
                          refine lv_iload_n hx hb dX10_word_124 rfl (lv_at hl 3 rfl) ?_
                          exact M_i hx hb hr hlocks (x22_1) hP hD hK hS ⟨⟨_, rfl, Or.inr ⟨qb, hqb1, hqb2, by have h9 := hx3.resolve_left c_43; omega⟩⟩, ⟨by omega, by omega⟩⟩ (Nat.le_of_ble_eq_true rfl) (Nat.le_of_ble_eq_true rfl) dX10_word_125
                      · have nc_42 := nle_i c_42
                        refine lv_iload hx hb dX10_word_80 (lv_at hl 0 rfl) ?_
                        refine lv_if_eq (tgt := 119) hx hb dX10_word_82 (by decide) (fun c_44 => ?_) (fun c_44 => ?_)
                        · have nc_44 := eq_i c_44
                          have lc_44 : (0 : Int32).toInt = 0 := by decide
                          refine lv_iload hx hb dX10_word_119 (lv_at hl 0 rfl) ?_
                          refine lv_if_eq (tgt := 126) hx hb dX10_word_121 (by decide) (fun c_45 => ?_) (fun c_45 => ?_)
                          · have nc_45 := eq_i c_45
                            have lc_45 : (0 : Int32).toInt = 0 := by decide
                            refine lv_iinc (v := (kw + 1)) (lv' := [(2, .int (kw + 1)), (4, .int iw), (5, .int ic), (3, .ref (sa (5 + qb))), (1, .int en), (0, .ref h0)]) hx hb dX10_word_126 hl (k := 3) rfl rfl (by decide) rfl (fun ls hl => ?_)
                            refine lv_goto (tgt := 37) hx hb dX10_word_129 (by decide) ?_
                            exact ihB (kw + 1) _ _ _ (up_le (by decide) hmB c_37)  hP hD hS (lv_sub hl [0, 4, 5] rfl)
                          · have nc_45 := ne_i c_45
                            have lc_45 : (0 : Int32).toInt = 0 := by decide
                            refine lv_iload_n hx hb dX10_word_124 rfl (lv_at hl 3 rfl) ?_
                            exact M_i hx hb hr hlocks (x22_1) hP hD hK hS ⟨⟨_, rfl, Or.inr ⟨qb, hqb1, hqb2, by have h9 := hx3.resolve_left c_45; omega⟩⟩, ⟨by omega, by omega⟩⟩ (Nat.le_of_ble_eq_true rfl) (Nat.le_of_ble_eq_true rfl) dX10_word_125
                        · have nc_44 := ne_i c_44
                          have lc_44 : (0 : Int32).toInt = 0 := by decide
                          refine lv_aload_n hx hb dX10_word_85 rfl (lv_at hl 2 rfl) ?_
                          refine lv_iload hx hb dX10_word_86 (lv_at hl 1 rfl) ?_
                          obtain ⟨ks_46, hks_47, hks_48⟩ : ∃ k : Nat, ic = nI k ∧ k < lenS.getD qb 0 := by obtain ⟨q9, g1, g2, g3⟩ := hm; have g4 := c_42; rw [ez_41, g1] at g4; have g5 := lenS_le qb hqb2; rw [nI_leI (by omega) (by omega)] at g4; exact ⟨q9, g1, by omega⟩
                          refine pu_V (i := qb) (v := some (.int (chS qb ks_46))) ⟨hx, hb, hml, hown, hts⟩ (pu_charAtX l dC dI sa qb ks_46 ic _ hks_47 (by omega) hks_48) (cwV 1 hts gX10_word_J0_charAt_5068e rfl rfl rfl (by decide +kernel) ⟨Nat.le_of_ble_eq_true rfl, Nat.le_of_ble_eq_true rfl⟩) hP hK hS hA hev (by omega) rfl hl.1 rfl (Nat.le_of_ble_eq_true rfl) dX10_word_88 ⟨Nat.le_of_ble_eq_true rfl, Nat.le_of_ble_eq_true rfl⟩ (fun H locs hP hS => ?_)
                          refine W.eq (g2 := F0 m 91 ls [.int (chS qb ks_46)]) rfl ?_
                          refine lv_topi (fun z_49 ez_49 => ?_)
                          refine lv_aload_n hx hb dX10_word_91 rfl (lv_at hl 5 rfl) ?_
                          refine va_get (D := (dC, dI)) (ci := 10) (v := .ref (b 19)) (C := RX10) (T := TX10) (N := 51) hx hb hts inw_X10_word_10 hown hK hP 0 rfl rfl 19 (by decide) (hts (.fieldLink RX10 53 "VatHouseModel" "tape" "[I") (by decide +kernel)) (fun _ h9 => h9) rfl dX10_word_92 ?_
                          refine lv_aload_n hx hb dX10_word_95 rfl (lv_at hl 5 rfl) ?_
                          refine va_get (D := (dC, dI)) (ci := 10) (v := .int x22_1) (C := RX10) (T := TX10) (N := 51) hx hb hts inw_X10_word_10 hown hK hP 0 rfl rfl 22 (by decide) (hts (.fieldLink RX10 168 "VatHouseModel" "at" "I") (by decide +kernel)) (fun _ h9 => h9) rfl dX10_word_96 ?_
                          refine lv_iload hx hb dX10_word_99 (lv_at hl 1 rfl) ?_
                          refine lv_iadd hx hb dX10_word_101 ?_
                          refine lv_topi (fun z_50 ez_50 => ?_)
                          have hlen := hx3.resolve_left c_44
                          have hic : 0 ≤ ic.toInt ∧ ic.toInt < (lenS.getD qb 0 : Int) := by
                            obtain ⟨q9, g1, g2, g3⟩ := hm
                            have g4 := c_42
                            rw [ez_41, g1] at g4
                            have g5 := lenS_le qb hqb2
                            rw [nI_leI (by omega) (by omega)] at g4
                            rw [g1, nI_toInt (by omega)]
                            omega
                          have tz_50 := add_i ez_50 (by omega) (by omega)
                          refine va_iald hx hb hK hP 15 14 rfl rfl (in_i (by omega) (by omega)) dX10_word_102 ?_
                          refine lv_topi (fun z_51 ez_51 => ?_)
                          have ez_51 : z_51 = (a 19) z_50.toNatClampNeg := ez_51
                          refine lv_icmp_ne (tgt := 110) hx hb dX10_word_103 (by decide) (fun c_52 => ?_) (fun c_52 => ?_)
                          · have nc_52 := ne_i c_52
                            refine lv_iconst (v := 0) hx hb dX10_word_110 (by decide) ?_
                            refine lv_istore (lv' := [(4, .int 0), (5, .int ic), (3, .ref (sa (5 + qb))), (2, .int kw), (1, .int en), (0, .ref h0)]) hx hb dX10_word_111 hl (by decide) rfl (fun ls hl => ?_)
                            refine lv_iinc (v := (ic + 1)) (lv' := [(5, .int (ic + 1)), (4, .int 0), (3, .ref (sa (5 + qb))), (2, .int kw), (1, .int en), (0, .ref h0)]) hx hb dX10_word_113 hl (k := 1) rfl rfl (by decide) rfl (fun ls hl => ?_)
                            refine lv_goto (tgt := 71) hx hb dX10_word_116 (by decide) ?_
                            exact ih (0 : Int32) (ic + 1) _ _ _ (up_nx (by decide) hm (by rw [ez_41]; exact nI_le (lenS_le qb hqb2) (by decide)) c_42) (Or.inl rfl) hP hD hS (lv_sub hl [1, 0, 2, 3, 4, 5] rfl)
                          · have nc_52 := eq_i c_52
                            refine lv_iconst (v := 1) hx hb dX10_word_106 (by decide) ?_
                            refine lv_goto (tgt := 111) hx hb dX10_word_107 (by decide) ?_
                            refine lv_istore (lv' := [(4, .int 1), (5, .int ic), (3, .ref (sa (5 + qb))), (2, .int kw), (1, .int en), (0, .ref h0)]) hx hb dX10_word_111 hl (by decide) rfl (fun ls hl => ?_)
                            refine lv_iinc (v := (ic + 1)) (lv' := [(5, .int (ic + 1)), (4, .int 1), (3, .ref (sa (5 + qb))), (2, .int kw), (1, .int en), (0, .ref h0)]) hx hb dX10_word_113 hl (k := 1) rfl rfl (by decide) rfl (fun ls hl => ?_)
                            refine lv_goto (tgt := 71) hx hb dX10_word_116 (by decide) ?_
                            exact ih (1 : Int32) (ic + 1) _ _ _ (up_nx (by decide) hm (by rw [ez_41]; exact nI_le (lenS_le qb hqb2) (by decide)) c_42) (Or.inr (hx3.resolve_left c_44)) hP hD hS (lv_sub hl [1, 0, 2, 3, 4, 5] rfl)
                  exact lp 7 (0 : Int32) (0 : Int32) _ _ _ (⟨0, nI_0.symm, by omega, by omega⟩) (Or.inl rfl) hP hD hS (lv_sub hl [1, 0, 2, 3, 4, 5] rfl)
                · have nc_40 := eq_i c_40
                  refine lv_iconst (v := 1) hx hb dX10_word_61 (by decide) ?_
                  refine lv_goto (tgt := 66) hx hb dX10_word_62 (by decide) ?_
                  refine lv_istore (lv' := [(4, .int 1), (3, .ref (sa (5 + qb))), (2, .int kw), (1, .int en), (0, .ref h0)]) hx hb dX10_word_66 hl (by decide) rfl (fun ls hl => ?_)
                  refine lv_iconst (v := 0) hx hb dX10_word_68 (by decide) ?_
                  refine lv_istore (lv' := [(5, .int 0), (4, .int 1), (3, .ref (sa (5 + qb))), (2, .int kw), (1, .int en), (0, .ref h0)]) hx hb dX10_word_69 hl (by decide) rfl (fun ls hl => ?_)
                  have lp : ∀ (n : Nat) (iw : Int32) (ic : Int32) (H : Heap) (locs : List Loc) (ls : Array Slot), (∃ q : Nat, ic = nI q ∧ q ≤ 6 ∧ 6 < q + n) → (iw = 0 ∨ (lenS.getD qb 0 : Int) = en.toInt - x22_1.toInt) → va_P (dC, dI) vwCl (mw g h0 b (va_up i 22 x22_1) a) H → va_D (va_A (mw g h0 b i a) s.heap.size) (mw g h0 b (va_up i 22 x22_1) a) → va_S (va_A (mw g h0 b i a) s.heap.size) s.heap H locs → lv_has ls 6 [(4, .int iw), (5, .int ic), (3, .ref (sa (5 + qb))), (2, .int kw), (1, .int en), (0, .ref h0)] → W p l e rm_X10_word s m [.ref h0].toArray below meth c H locs 0 0 (MQ below (Qg (fun (r : Option Value) (x22 : Int32) => (∃ z : Int32, r = some (.int z) ∧ (z = -1 ∨ ∃ q : Nat, z = nI q ∧ q ≤ 18 ∧ x22.toInt + (lenS.getD q 0 : Int) ≤ (i 21).toInt)) ∧ ((i 22).toInt ≤ x22.toInt ∧ x22.toInt ≤ (i 21).toInt)) (fun u t => QW dC dI (va_A (mw g h0 b i a) s.heap.size) ((fun (x22 : Int32) => mw g h0 b (va_up i 22 x22) a) u) [] t) (va_A (mw g h0 b i a) s.heap.size)) [.ref h0].toArray s 0 0 (va_A (mw g h0 b i a) s.heap.size)) (F0 m 71 ls []) := by
                    intro n
                    induction n with
                    | zero => intro iw ic H locs ls hm hx3 hP hD hS hl; exact absurd hm (by rintro ⟨q, -, h1, h2⟩; omega)
                    | succ n ih =>
                      intro iw ic H locs ls hm hx3 hP hD hS hl
                      refine lv_iload hx hb dX10_word_71 (lv_at hl 1 rfl) ?_
                      refine lv_aload_n hx hb dX10_word_73 rfl (lv_at hl 2 rfl) ?_
                      refine pu_V (i := qb) (v := some (.int (nI (lenS.getD qb 0)))) ⟨hx, hb, hml, hown, hts⟩ (pu_length l dC dI sa qb _ (by omega)) (cwV 0 hts gX10_word_J0_length_8abf5 rfl rfl rfl (by decide +kernel) ⟨Nat.le_of_ble_eq_true rfl, Nat.le_of_ble_eq_true rfl⟩) hP hK hS hA hev (by omega) rfl hl.1 rfl (Nat.le_of_ble_eq_true rfl) dX10_word_74 ⟨Nat.le_of_ble_eq_true rfl, Nat.le_of_ble_eq_true rfl⟩ (fun H locs hP hS => ?_)
                      refine W.eq (g2 := F0 m 77 ls [.int (nI (lenS.getD qb 0)), .int ic]) rfl ?_
                      refine lv_topi (fun z_53 ez_53 => ?_)
                      refine lv_icmp_ge (tgt := 119) hx hb dX10_word_77 (by decide) (fun c_54 => ?_) (fun c_54 => ?_)
                      · have nc_54 := le_i c_54
                        refine lv_iload hx hb dX10_word_119 (lv_at hl 0 rfl) ?_
                        refine lv_if_eq (tgt := 126) hx hb dX10_word_121 (by decide) (fun c_55 => ?_) (fun c_55 => ?_)
                        · have nc_55 := eq_i c_55
                          have lc_55 : (0 : Int32).toInt = 0 := by decide
                          refine lv_iinc (v := (kw + 1)) (lv' := [(2, .int (kw + 1)), (4, .int iw), (5, .int ic), (3, .ref (sa (5 + qb))), (1, .int en), (0, .ref h0)]) hx hb dX10_word_126 hl (k := 3) rfl rfl (by decide) rfl (fun ls hl => ?_)
                          refine lv_goto (tgt := 37) hx hb dX10_word_129 (by decide) ?_
                          exact ihB (kw + 1) _ _ _ (up_le (by decide) hmB c_37)  hP hD hS (lv_sub hl [0, 4, 5] rfl)
                        · have nc_55 := ne_i c_55
                          have lc_55 : (0 : Int32).toInt = 0 := by decide
                          refine lv_iload_n hx hb dX10_word_124 rfl (lv_at hl 3 rfl) ?_
                          exact M_i hx hb hr hlocks (x22_1) hP hD hK hS ⟨⟨_, rfl, Or.inr ⟨qb, hqb1, hqb2, by have h9 := hx3.resolve_left c_55; omega⟩⟩, ⟨by omega, by omega⟩⟩ (Nat.le_of_ble_eq_true rfl) (Nat.le_of_ble_eq_true rfl) dX10_word_125
                      · have nc_54 := nle_i c_54
                        refine lv_iload hx hb dX10_word_80 (lv_at hl 0 rfl) ?_
                        refine lv_if_eq (tgt := 119) hx hb dX10_word_82 (by decide) (fun c_56 => ?_) (fun c_56 => ?_)
                        · have nc_56 := eq_i c_56
                          have lc_56 : (0 : Int32).toInt = 0 := by decide
                          refine lv_iload hx hb dX10_word_119 (lv_at hl 0 rfl) ?_
                          refine lv_if_eq (tgt := 126) hx hb dX10_word_121 (by decide) (fun c_57 => ?_) (fun c_57 => ?_)
                          · have nc_57 := eq_i c_57
                            have lc_57 : (0 : Int32).toInt = 0 := by decide
                            refine lv_iinc (v := (kw + 1)) (lv' := [(2, .int (kw + 1)), (4, .int iw), (5, .int ic), (3, .ref (sa (5 + qb))), (1, .int en), (0, .ref h0)]) hx hb dX10_word_126 hl (k := 3) rfl rfl (by decide) rfl (fun ls hl => ?_)
                            refine lv_goto (tgt := 37) hx hb dX10_word_129 (by decide) ?_
                            exact ihB (kw + 1) _ _ _ (up_le (by decide) hmB c_37)  hP hD hS (lv_sub hl [0, 4, 5] rfl)
                          · have nc_57 := ne_i c_57
                            have lc_57 : (0 : Int32).toInt = 0 := by decide
                            refine lv_iload_n hx hb dX10_word_124 rfl (lv_at hl 3 rfl) ?_
                            exact M_i hx hb hr hlocks (x22_1) hP hD hK hS ⟨⟨_, rfl, Or.inr ⟨qb, hqb1, hqb2, by have h9 := hx3.resolve_left c_57; omega⟩⟩, ⟨by omega, by omega⟩⟩ (Nat.le_of_ble_eq_true rfl) (Nat.le_of_ble_eq_true rfl) dX10_word_125
                        · have nc_56 := ne_i c_56
                          have lc_56 : (0 : Int32).toInt = 0 := by decide
                          refine lv_aload_n hx hb dX10_word_85 rfl (lv_at hl 2 rfl) ?_
                          refine lv_iload hx hb dX10_word_86 (lv_at hl 1 rfl) ?_
                          obtain ⟨ks_58, hks_59, hks_60⟩ : ∃ k : Nat, ic = nI k ∧ k < lenS.getD qb 0 := by obtain ⟨q9, g1, g2, g3⟩ := hm; have g4 := c_54; rw [ez_53, g1] at g4; have g5 := lenS_le qb hqb2; rw [nI_leI (by omega) (by omega)] at g4; exact ⟨q9, g1, by omega⟩
                          refine pu_V (i := qb) (v := some (.int (chS qb ks_58))) ⟨hx, hb, hml, hown, hts⟩ (pu_charAtX l dC dI sa qb ks_58 ic _ hks_59 (by omega) hks_60) (cwV 1 hts gX10_word_J0_charAt_5068e rfl rfl rfl (by decide +kernel) ⟨Nat.le_of_ble_eq_true rfl, Nat.le_of_ble_eq_true rfl⟩) hP hK hS hA hev (by omega) rfl hl.1 rfl (Nat.le_of_ble_eq_true rfl) dX10_word_88 ⟨Nat.le_of_ble_eq_true rfl, Nat.le_of_ble_eq_true rfl⟩ (fun H locs hP hS => ?_)
                          refine W.eq (g2 := F0 m 91 ls [.int (chS qb ks_58)]) rfl ?_
                          refine lv_topi (fun z_61 ez_61 => ?_)
                          refine lv_aload_n hx hb dX10_word_91 rfl (lv_at hl 5 rfl) ?_
                          refine va_get (D := (dC, dI)) (ci := 10) (v := .ref (b 19)) (C := RX10) (T := TX10) (N := 51) hx hb hts inw_X10_word_10 hown hK hP 0 rfl rfl 19 (by decide) (hts (.fieldLink RX10 53 "VatHouseModel" "tape" "[I") (by decide +kernel)) (fun _ h9 => h9) rfl dX10_word_92 ?_
                          refine lv_aload_n hx hb dX10_word_95 rfl (lv_at hl 5 rfl) ?_
                          refine va_get (D := (dC, dI)) (ci := 10) (v := .int x22_1) (C := RX10) (T := TX10) (N := 51) hx hb hts inw_X10_word_10 hown hK hP 0 rfl rfl 22 (by decide) (hts (.fieldLink RX10 168 "VatHouseModel" "at" "I") (by decide +kernel)) (fun _ h9 => h9) rfl dX10_word_96 ?_
                          refine lv_iload hx hb dX10_word_99 (lv_at hl 1 rfl) ?_
                          refine lv_iadd hx hb dX10_word_101 ?_
                          refine lv_topi (fun z_62 ez_62 => ?_)
                          have hlen := hx3.resolve_left c_56
                          have hic : 0 ≤ ic.toInt ∧ ic.toInt < (lenS.getD qb 0 : Int) := by
                            obtain ⟨q9, g1, g2, g3⟩ := hm
                            have g4 := c_54
                            rw [ez_53, g1] at g4
                            have g5 := lenS_le qb hqb2
                            rw [nI_leI (by omega) (by omega)] at g4
                            rw [g1, nI_toInt (by omega)]
                            omega
                          have tz_62 := add_i ez_62 (by omega) (by omega)
                          refine va_iald hx hb hK hP 15 14 rfl rfl (in_i (by omega) (by omega)) dX10_word_102 ?_
                          refine lv_topi (fun z_63 ez_63 => ?_)
                          have ez_63 : z_63 = (a 19) z_62.toNatClampNeg := ez_63
                          refine lv_icmp_ne (tgt := 110) hx hb dX10_word_103 (by decide) (fun c_64 => ?_) (fun c_64 => ?_)
                          · have nc_64 := ne_i c_64
                            refine lv_iconst (v := 0) hx hb dX10_word_110 (by decide) ?_
                            refine lv_istore (lv' := [(4, .int 0), (5, .int ic), (3, .ref (sa (5 + qb))), (2, .int kw), (1, .int en), (0, .ref h0)]) hx hb dX10_word_111 hl (by decide) rfl (fun ls hl => ?_)
                            refine lv_iinc (v := (ic + 1)) (lv' := [(5, .int (ic + 1)), (4, .int 0), (3, .ref (sa (5 + qb))), (2, .int kw), (1, .int en), (0, .ref h0)]) hx hb dX10_word_113 hl (k := 1) rfl rfl (by decide) rfl (fun ls hl => ?_)
                            refine lv_goto (tgt := 71) hx hb dX10_word_116 (by decide) ?_
                            exact ih (0 : Int32) (ic + 1) _ _ _ (up_nx (by decide) hm (by rw [ez_53]; exact nI_le (lenS_le qb hqb2) (by decide)) c_54) (Or.inl rfl) hP hD hS (lv_sub hl [1, 0, 2, 3, 4, 5] rfl)
                          · have nc_64 := eq_i c_64
                            refine lv_iconst (v := 1) hx hb dX10_word_106 (by decide) ?_
                            refine lv_goto (tgt := 111) hx hb dX10_word_107 (by decide) ?_
                            refine lv_istore (lv' := [(4, .int 1), (5, .int ic), (3, .ref (sa (5 + qb))), (2, .int kw), (1, .int en), (0, .ref h0)]) hx hb dX10_word_111 hl (by decide) rfl (fun ls hl => ?_)
                            refine lv_iinc (v := (ic + 1)) (lv' := [(5, .int (ic + 1)), (4, .int 1), (3, .ref (sa (5 + qb))), (2, .int kw), (1, .int en), (0, .ref h0)]) hx hb dX10_word_113 hl (k := 1) rfl rfl (by decide) rfl (fun ls hl => ?_)
                            refine lv_goto (tgt := 71) hx hb dX10_word_116 (by decide) ?_
                            exact ih (1 : Int32) (ic + 1) _ _ _ (up_nx (by decide) hm (by rw [ez_53]; exact nI_le (lenS_le qb hqb2) (by decide)) c_54) (Or.inr (hx3.resolve_left c_56)) hP hD hS (lv_sub hl [1, 0, 2, 3, 4, 5] rfl)
                  exact lp 7 (1 : Int32) (0 : Int32) _ _ _ (⟨0, nI_0.symm, by omega, by omega⟩) (Or.inr (wd_len ez_38 ez_39 c_40 (by have := lenS_le qb hqb2; omega) (by omega) (by omega))) hP hD hS (lv_sub hl [1, 0, 2, 3, 4, 5] rfl)
          exact lpB 20 (0 : Int32) _ _ _ (⟨0, nI_0.symm, by omega, by omega⟩)  hP hD hS (lv_sub hl [0, 1, 2] rfl)
        · have nc_36 := ne_i c_36
          have lc_36 : (0 : Int32).toInt = 0 := by decide
          refine lv_iinc (v := (en + 1)) (lv' := [(1, .int (en + 1)), (0, .ref h0)]) hx hb dX10_word_29 hl (k := 0) rfl rfl (by decide) rfl (fun ls hl => ?_)
          refine lv_goto (tgt := 9) hx hb dX10_word_32 (by decide) ?_
          exact ihA (en + 1) _ _ _ (at_nx hmA c_3 rfl) (by have h9 := incz c_3 (rfl : en + 1 = en + 1); omega) hP hD hS (lv_sub hl [0, 1] rfl)
  exact lpA (((i 21).toInt - x22_1.toInt).toNat + 1) x22_1 _ _ _ (by omega) (by omega) hP hD hS (lv_sub hl [0, 1] rfl)

abbrev rm_X10_pass : Room := { frames := 2, cells := 0, slots := 0, locals := 60 }
theorem inw_X10_pass_10 : ∀ w ∈ wsX100, w ∈ wsX10_pass := by decide +kernel
set_option maxHeartbeats 1000000 in
set_option maxRecDepth 100000 in
theorem m_X10_pass (l : Launch) (dC : Nat → ClassId) (dI : Nat → Nat → Nat) (sa : Nat → Nat) (g : Nat → Nat) (h0 : Nat) (b : Nat → Nat) (i : Nat → Int32) (a : Nat → Nat → Int32) (wd : Int32) (sz : Nat) (hSI : 0 ≤ (i 22).toInt ∧ (i 22).toInt ≤ (i 21).toInt ∧ (i 21).toInt ≤ 1500) (hq : ∃ q : Nat, wd = nI q ∧ q ≤ 18 ∧ (i 22).toInt + (lenS.getD q 0 : Int) ≤ (i 21).toInt) : CT l dC dI sa yX10_pass wsX10_pass rm_X10_pass [.ref h0, .int wd] (mw g h0 b i a) (tyM g) sz (fun (r : Option Value) (x22 : Int32) => (r = none) ∧ ((i 22).toInt ≤ x22.toInt ∧ x22.toInt ≤ (i 21).toInt)) (fun (x22 : Int32) => mw g h0 b (va_up i 22 x22) a) (fun _ => []) 0 0 := by
  refine CT.start (cc := cX10_pass) (maxL := 2) (ret := none) (by decide) rfl (Nat.le_of_ble_eq_true rfl) ?_
  intro p e s m below meth c ls hst hP hK hD hev hS hl
  obtain ⟨hx, hb, hr, hml, hts, hown, hlocks, hin⟩ := hst
  have hown : s.vm.findClass RX10 = some m.cls := hown
  have hA : ∀ q : Nat, s.heap.size ≤ q → va_A (mw g h0 b i a) s.heap.size q := fun _ h => Or.inr h
  have hl : lv_has ls 2 [(0, .ref h0), (1, .int wd)] := hl
  obtain ⟨q, hq1, hq2, hq3⟩ := hq
  refine lv_aload_n hx hb dX10_pass_0 rfl (lv_at hl 0 rfl) ?_
  refine lv_dup hx hb dX10_pass_1 rfl ?_
  refine va_get (D := (dC, dI)) (ci := 10) (v := .int (i 22)) (C := RX10) (T := TX10) (N := 51) hx hb hts inw_X10_pass_10 hown hK hP 0 rfl rfl 22 (by decide) (hts (.fieldLink RX10 168 "VatHouseModel" "at" "I") (by decide +kernel)) (fun _ h9 => h9) rfl dX10_pass_2 ?_
  refine lv_iload_n hx hb dX10_pass_5 rfl (lv_at hl 1 rfl) ?_
  refine pu_S (v := some (.ref (sa (5 + q)))) ⟨hx, hb, hml, hown, hts⟩ (pu_nameOf l dC dI sa q hq2 wd hq1 _) (va_cwS 1 hts gX10_pass_X10_nameOf rfl rfl rfl (by decide +kernel) ⟨Nat.le_of_ble_eq_true rfl, Nat.le_of_ble_eq_true rfl⟩) hP hK hS hA hev rfl hl.1 rfl (Nat.le_of_ble_eq_true rfl) dX10_pass_6 ⟨Nat.le_of_ble_eq_true rfl, Nat.le_of_ble_eq_true rfl⟩ (fun H locs hP hS => ?_)
  refine W.eq (g2 := F0 m 9 ls [.ref (sa (5 + q)), .int (i 22), .ref h0]) rfl ?_
  refine pu_V (i := q) (v := some (.int (nI (lenS.getD q 0)))) ⟨hx, hb, hml, hown, hts⟩ (pu_length l dC dI sa q _ (by omega)) (cwV 0 hts gX10_pass_J0_length_8abf5 rfl rfl rfl (by decide +kernel) ⟨Nat.le_of_ble_eq_true rfl, Nat.le_of_ble_eq_true rfl⟩) hP hK hS hA hev (by omega) rfl hl.1 rfl (Nat.le_of_ble_eq_true rfl) dX10_pass_9 ⟨Nat.le_of_ble_eq_true rfl, Nat.le_of_ble_eq_true rfl⟩ (fun H locs hP hS => ?_)
  refine W.eq (g2 := F0 m 12 ls [.int (nI (lenS.getD q 0)), .int (i 22), .ref h0]) rfl ?_
  refine lv_topi (fun z_1 ez_1 => ?_)
  refine lv_iadd hx hb dX10_pass_12 ?_
  refine lv_topi (fun z_2 ez_2 => ?_)
  have tz1 : z_1.toInt = (lenS.getD q 0 : Int) := by rw [ez_1]; exact nI_toInt (by have := lenS_le q hq2; omega)
  have tz2 := add_i ez_2 (by omega) (by omega)
  refine va_put (D := (dC, dI)) (ci := 10) (v := .int z_2) (ty := .int) (C := RX10) (T := TX10) (N := 51) hx hb hts inw_X10_pass_10 tyX10 tyX10_ok nmX10 hown hK hP hD hS 0 rfl rfl 22 (by decide) (hts (.fieldLink RX10 168 "VatHouseModel" "at" "I") (by decide +kernel)) (fun _ h9 => h9) rfl (by decide +kernel) rfl rfl (Nat.le_of_ble_eq_true rfl) dX10_pass_13 (fun H locs hP hD hS => ?_)
  have hP : va_P (dC, dI) vwCl (mw g h0 b (va_up i 22 z_2) a) _ := hP
  have hD : va_D _ (mw g h0 b (va_up i 22 z_2) a) := hD
  exact M_v hx hb hr hlocks (z_2) hP hD hK hS ⟨rfl, ⟨by omega, by omega⟩⟩ (Nat.le_of_ble_eq_true rfl) (Nat.le_of_ble_eq_true rfl) dX10_pass_16

abbrev rm_X10_need : Room := { frames := 2, cells := 0, slots := 0, locals := 41 }
theorem inw_X10_need_10 : ∀ w ∈ wsX100, w ∈ wsX10_need := by decide +kernel
set_option maxHeartbeats 1000000 in
set_option maxRecDepth 100000 in
theorem m_X10_need (l : Launch) (dC : Nat → ClassId) (dI : Nat → Nat → Nat) (sa : Nat → Nat) (g : Nat → Nat) (h0 : Nat) (b : Nat → Nat) (i : Nat → Int32) (a : Nat → Nat → Int32) (sg : Int32) (sz : Nat) (hSI : 0 ≤ (i 22).toInt ∧ (i 22).toInt ≤ (i 21).toInt ∧ (i 21).toInt ≤ 1500) (hFK : 0 ≤ (i 23).toInt) : CT l dC dI sa yX10_need wsX10_need rm_X10_need [.ref h0, .int sg] (mw g h0 b i a) (tyM g) sz (fun (r : Option Value) (u : Int32 × Int32 × Int32) => match u with | (x22, x23, x24) => ((r = some (.int 0) ∧ (0 < x23.toInt)) ∨ (r = some (.int 1) ∧ (True))) ∧ (((i 22).toInt ≤ x22.toInt ∧ x22.toInt ≤ (i 21).toInt) ∧ 0 ≤ x23.toInt ∧ (0 < (i 23).toInt → 0 < x23.toInt))) (fun (u : Int32 × Int32 × Int32) => match u with | (x22, x23, x24) => mw g h0 b (va_up (va_up (va_up i 22 x22) 23 x23) 24 x24) a) (fun _ => []) 0 0 := by
  refine CT.start (cc := cX10_need) (maxL := 2) (ret := (some .boolean)) (by decide) rfl (Nat.le_of_ble_eq_true rfl) ?_
  intro p e s m below meth c ls hst hP hK hD hev hS hl
  obtain ⟨hx, hb, hr, hml, hts, hown, hlocks, hin⟩ := hst
  have hown : s.vm.findClass RX10 = some m.cls := hown
  have hA : ∀ q : Nat, s.heap.size ≤ q → va_A (mw g h0 b i a) s.heap.size q := fun _ h => Or.inr h
  have hl : lv_has ls 2 [(0, .ref h0), (1, .int sg)] := hl
  refine lv_aload_n hx hb dX10_need_0 rfl (lv_at hl 0 rfl) ?_
  refine lv_iload_n hx hb dX10_need_1 rfl (lv_at hl 1 rfl) ?_
  refine M_V ⟨hx, hb, hml, hown, hts⟩ (m_X10_isSign l dC dI sa g h0 b i a sg _ (show 0 ≤ (i 22).toInt ∧ (i 22).toInt ≤ (i 21).toInt ∧ (i 21).toInt ≤ 1500 from by omega)) (cwV 1 hts gX10_need_X10_isSign rfl rfl rfl (by decide +kernel) ⟨Nat.le_of_ble_eq_true rfl, Nat.le_of_ble_eq_true rfl⟩) hP hD hK hS hA hev rfl rfl rfl rfl hl.1 rfl (Nat.le_of_ble_eq_true rfl) dX10_need_2 ⟨(Nat.le_of_ble_eq_true rfl), (Nat.le_of_ble_eq_true rfl)⟩ (fun r u H locs hw hP hD hS => ?_)
  obtain ⟨x22_1, rfl⟩ : ∃ z, z = u := ⟨_, rfl⟩
  have hw : ((r = some (.int 0) ∧ (True)) ∨ (r = some (.int 1) ∧ (x22_1.toInt < (i 21).toInt))) ∧ ((i 22).toInt ≤ x22_1.toInt ∧ x22_1.toInt ≤ (i 21).toInt) := hw
  obtain ⟨⟨rfl, hz2_3⟩ | ⟨rfl, hz2_3⟩, hw_2⟩ := hw
  · have hP : va_P (dC, dI) vwCl (mw g h0 b (va_up i 22 x22_1) a) _ := hP
    have hD : va_D _ (mw g h0 b (va_up i 22 x22_1) a) := hD
    refine W.eq (g2 := F0 m 5 ls [.int 0]) rfl ?_
    refine lv_if_ne (tgt := 18) hx hb dX10_need_5 (by decide) (fun c_4 => absurd c_4 (by decide)) (fun _ => ?_)
    refine lv_aload_n hx hb dX10_need_8 rfl (lv_at hl 0 rfl) ?_
    refine lv_iconst (v := 1) hx hb dX10_need_9 (by decide) ?_
    refine lv_aload_n hx hb dX10_need_10 rfl (lv_at hl 0 rfl) ?_
    refine va_get (D := (dC, dI)) (ci := 10) (v := .int x22_1) (C := RX10) (T := TX10) (N := 51) hx hb hts inw_X10_need_10 hown hK hP 0 rfl rfl 22 (by decide) (hts (.fieldLink RX10 168 "VatHouseModel" "at" "I") (by decide +kernel)) (fun _ h9 => h9) rfl dX10_need_11 ?_
    refine M_V ⟨hx, hb, hml, hown, hts⟩ (m_X10_wrong l dC dI sa g h0 b (va_up i 22 x22_1) a (1 : Int32) x22_1 _ (by decide) (show 0 ≤ (i 23).toInt from by omega)) (cwV 2 hts gX10_need_X10_wrong rfl rfl rfl (by decide +kernel) ⟨Nat.le_of_ble_eq_true rfl, Nat.le_of_ble_eq_true rfl⟩) hP hD hK hS hA hev rfl rfl rfl rfl hl.1 rfl (Nat.le_of_ble_eq_true rfl) dX10_need_14 ⟨(Nat.le_of_ble_eq_true rfl), (Nat.le_of_ble_eq_true rfl)⟩ (fun r u H locs hw hP hD hS => ?_)
    obtain ⟨x23_5, x24_6⟩ := u
    have hw : ((r = some (.int 0) ∧ (0 < x23_5.toInt)) ∨ (r = some (.int 1) ∧ (False))) ∧ (True) := hw
    obtain ⟨⟨rfl, hz2_8⟩ | ⟨rfl, hz2_8⟩, hw_7⟩ := hw
    · have hP : va_P (dC, dI) vwCl (mw g h0 b (va_up (va_up (va_up i 22 x22_1) 23 x23_5) 24 x24_6) a) _ := hP
      have hD : va_D _ (mw g h0 b (va_up (va_up (va_up i 22 x22_1) 23 x23_5) 24 x24_6) a) := hD
      refine W.eq (g2 := F0 m 17 ls [.int 0]) rfl ?_
      exact M_z hx hb hr rfl hlocks (x22_1, x23_5, x24_6) hP hD hK hS ⟨Or.inl ⟨rfl, by omega⟩, ⟨⟨by omega, by omega⟩, by omega, fun h9 => by omega⟩⟩ (Nat.le_of_ble_eq_true rfl) (Nat.le_of_ble_eq_true rfl) dX10_need_17
    · have hP : va_P (dC, dI) vwCl (mw g h0 b (va_up (va_up (va_up i 22 x22_1) 23 x23_5) 24 x24_6) a) _ := hP
      have hD : va_D _ (mw g h0 b (va_up (va_up (va_up i 22 x22_1) 23 x23_5) 24 x24_6) a) := hD
      refine W.eq (g2 := F0 m 17 ls [.int 1]) rfl ?_
      exact hz2_8.elim
  · have hP : va_P (dC, dI) vwCl (mw g h0 b (va_up i 22 x22_1) a) _ := hP
    have hD : va_D _ (mw g h0 b (va_up i 22 x22_1) a) := hD
    refine W.eq (g2 := F0 m 5 ls [.int 1]) rfl ?_
    refine lv_if_ne (tgt := 18) hx hb dX10_need_5 (by decide) (fun _ => ?_) (fun c_9 => absurd c_9 (by decide))
    refine lv_aload_n hx hb dX10_need_18 rfl (lv_at hl 0 rfl) ?_
    refine lv_dup hx hb dX10_need_19 rfl ?_
    refine va_get (D := (dC, dI)) (ci := 10) (v := .int x22_1) (C := RX10) (T := TX10) (N := 51) hx hb hts inw_X10_need_10 hown hK hP 0 rfl rfl 22 (by decide) (hts (.fieldLink RX10 168 "VatHouseModel" "at" "I") (by decide +kernel)) (fun _ h9 => h9) rfl dX10_need_20 ?_
    refine lv_iconst (v := 1) hx hb dX10_need_23 (by decide) ?_
    refine lv_iadd hx hb dX10_need_24 ?_
    refine lv_topi (fun z_10 ez_10 => ?_)
    refine va_put (D := (dC, dI)) (ci := 10) (v := .int z_10) (ty := .int) (C := RX10) (T := TX10) (N := 51) hx hb hts inw_X10_need_10 tyX10 tyX10_ok nmX10 hown hK hP hD hS 0 rfl rfl 22 (by decide) (hts (.fieldLink RX10 168 "VatHouseModel" "at" "I") (by decide +kernel)) (fun _ h9 => h9) rfl (by decide +kernel) rfl rfl (Nat.le_of_ble_eq_true rfl) dX10_need_25 (fun H locs hP hD hS => ?_)
    have hP : va_P (dC, dI) vwCl (mw g h0 b (va_up i 22 z_10) a) _ := hP
    have hD : va_D _ (mw g h0 b (va_up i 22 z_10) a) := hD
    refine lv_iconst (v := 1) hx hb dX10_need_28 (by decide) ?_
    exact M_z hx hb hr rfl hlocks (z_10, (i 23), (i 24)) hP hD hK hS ⟨Or.inr ⟨rfl, trivial⟩, ⟨⟨by first | omega | (have h9 := incz (y := i 21) (by rw [Int32.le_iff_toInt_le]; omega) ez_10; omega), by first | omega | (have h9 := incz (y := i 21) (by rw [Int32.le_iff_toInt_le]; omega) ez_10; omega)⟩, by omega, fun h9 => by omega⟩⟩ (Nat.le_of_ble_eq_true rfl) (Nat.le_of_ble_eq_true rfl) dX10_need_29

abbrev rm_X10_needWord : Room := { frames := 5, cells := 0, slots := 0, locals := 166 }
theorem inw_X10_needWord_10 : ∀ w ∈ wsX100, w ∈ wsX10_needWord := by decide +kernel
set_option maxHeartbeats 1000000 in
set_option maxRecDepth 100000 in
theorem m_X10_needWord (l : Launch) (dC : Nat → ClassId) (dI : Nat → Nat → Nat) (sa : Nat → Nat) (g : Nat → Nat) (h0 : Nat) (b : Nat → Nat) (i : Nat → Int32) (a : Nat → Nat → Int32) (wd : Int32) (sz : Nat) (hSI : 0 ≤ (i 22).toInt ∧ (i 22).toInt ≤ (i 21).toInt ∧ (i 21).toInt ≤ 1500) (hFK : 0 ≤ (i 23).toInt) (hwd : ¬ wd = -1) : CT l dC dI sa yX10_needWord wsX10_needWord rm_X10_needWord [.ref h0, .int wd] (mw g h0 b i a) (tyM g) sz (fun (r : Option Value) (u : Int32 × Int32 × Int32) => match u with | (x22, x23, x24) => ((r = some (.int 0) ∧ (0 < x23.toInt)) ∨ (r = some (.int 1) ∧ (True))) ∧ (((i 22).toInt ≤ x22.toInt ∧ x22.toInt ≤ (i 21).toInt) ∧ 0 ≤ x23.toInt ∧ (0 < (i 23).toInt → 0 < x23.toInt))) (fun (u : Int32 × Int32 × Int32) => match u with | (x22, x23, x24) => mw g h0 b (va_up (va_up (va_up i 22 x22) 23 x23) 24 x24) a) (fun _ => []) 0 0 := by
  refine CT.start (cc := cX10_needWord) (maxL := 2) (ret := (some .boolean)) (by decide) rfl (Nat.le_of_ble_eq_true rfl) ?_
  intro p e s m below meth c ls hst hP hK hD hev hS hl
  obtain ⟨hx, hb, hr, hml, hts, hown, hlocks, hin⟩ := hst
  have hown : s.vm.findClass RX10 = some m.cls := hown
  have hA : ∀ q : Nat, s.heap.size ≤ q → va_A (mw g h0 b i a) s.heap.size q := fun _ h => Or.inr h
  have hl : lv_has ls 2 [(0, .ref h0), (1, .int wd)] := hl
  refine lv_aload_n hx hb dX10_needWord_0 rfl (lv_at hl 0 rfl) ?_
  refine M_V ⟨hx, hb, hml, hown, hts⟩ (m_X10_word l dC dI sa g h0 b i a  _ (show 0 ≤ (i 22).toInt ∧ (i 22).toInt ≤ (i 21).toInt ∧ (i 21).toInt ≤ 1500 from by omega)) (cwV 0 hts gX10_needWord_X10_word rfl rfl rfl (by decide +kernel) ⟨Nat.le_of_ble_eq_true rfl, Nat.le_of_ble_eq_true rfl⟩) hP hD hK hS hA hev rfl rfl rfl rfl hl.1 rfl (Nat.le_of_ble_eq_true rfl) dX10_needWord_1 ⟨(Nat.le_of_ble_eq_true rfl), (Nat.le_of_ble_eq_true rfl)⟩ (fun r u H locs hw hP hD hS => ?_)
  obtain ⟨x22_1, rfl⟩ : ∃ z, z = u := ⟨_, rfl⟩
  have hw : (∃ z : Int32, r = some (.int z) ∧ (z = -1 ∨ ∃ q : Nat, z = nI q ∧ q ≤ 18 ∧ x22_1.toInt + (lenS.getD q 0 : Int) ≤ (i 21).toInt)) ∧ ((i 22).toInt ≤ x22_1.toInt ∧ x22_1.toInt ≤ (i 21).toInt) := hw
  obtain ⟨⟨z_3, rfl, hz_z_3⟩, hw_2⟩ := hw
  have hP : va_P (dC, dI) vwCl (mw g h0 b (va_up i 22 x22_1) a) _ := hP
  have hD : va_D _ (mw g h0 b (va_up i 22 x22_1) a) := hD
  refine W.eq (g2 := F0 m 4 ls [.int z_3]) rfl ?_
  refine lv_iload_n hx hb dX10_needWord_4 rfl (lv_at hl 1 rfl) ?_
  refine lv_icmp_eq (tgt := 18) hx hb dX10_needWord_5 (by decide) (fun c_4 => ?_) (fun c_4 => ?_)
  · have nc_4 := eq_i c_4
    refine lv_aload_n hx hb dX10_needWord_18 rfl (lv_at hl 0 rfl) ?_
    refine lv_iload_n hx hb dX10_needWord_19 rfl (lv_at hl 1 rfl) ?_
    refine M_V ⟨hx, hb, hml, hown, hts⟩ (m_X10_pass l dC dI sa g h0 b (va_up i 22 x22_1) a wd _ (show 0 ≤ x22_1.toInt ∧ x22_1.toInt ≤ (i 21).toInt ∧ (i 21).toInt ≤ 1500 from by omega) (by rw [← c_4]; exact hz_z_3.resolve_left (fun h9 => hwd (c_4.symm.trans h9)))) (cwV 1 hts gX10_needWord_X10_pass rfl rfl rfl (by decide +kernel) ⟨Nat.le_of_ble_eq_true rfl, Nat.le_of_ble_eq_true rfl⟩) hP hD hK hS hA hev rfl rfl rfl rfl hl.1 rfl (Nat.le_of_ble_eq_true rfl) dX10_needWord_20 ⟨(Nat.le_of_ble_eq_true rfl), (Nat.le_of_ble_eq_true rfl)⟩ (fun r u H locs hw hP hD hS => ?_)
    obtain ⟨x22_5, rfl⟩ : ∃ z, z = u := ⟨_, rfl⟩
    have hw : (r = none) ∧ (x22_1.toInt ≤ x22_5.toInt ∧ x22_5.toInt ≤ (i 21).toInt) := hw
    obtain ⟨rfl, hw_6⟩ := hw
    have hP : va_P (dC, dI) vwCl (mw g h0 b (va_up i 22 x22_5) a) _ := hP
    have hD : va_D _ (mw g h0 b (va_up i 22 x22_5) a) := hD
    refine W.eq (g2 := F0 m 23 ls []) rfl ?_
    refine lv_iconst (v := 1) hx hb dX10_needWord_23 (by decide) ?_
    exact M_z hx hb hr rfl hlocks (x22_5, (i 23), (i 24)) hP hD hK hS ⟨Or.inr ⟨rfl, trivial⟩, ⟨⟨by omega, by omega⟩, by omega, fun h9 => by omega⟩⟩ (Nat.le_of_ble_eq_true rfl) (Nat.le_of_ble_eq_true rfl) dX10_needWord_24
  · have nc_4 := ne_i c_4
    refine lv_aload_n hx hb dX10_needWord_8 rfl (lv_at hl 0 rfl) ?_
    refine lv_iconst (v := 1) hx hb dX10_needWord_9 (by decide) ?_
    refine lv_aload_n hx hb dX10_needWord_10 rfl (lv_at hl 0 rfl) ?_
    refine va_get (D := (dC, dI)) (ci := 10) (v := .int x22_1) (C := RX10) (T := TX10) (N := 51) hx hb hts inw_X10_needWord_10 hown hK hP 0 rfl rfl 22 (by decide) (hts (.fieldLink RX10 168 "VatHouseModel" "at" "I") (by decide +kernel)) (fun _ h9 => h9) rfl dX10_needWord_11 ?_
    refine M_V ⟨hx, hb, hml, hown, hts⟩ (m_X10_wrong l dC dI sa g h0 b (va_up i 22 x22_1) a (1 : Int32) x22_1 _ (by decide) (show 0 ≤ (i 23).toInt from by omega)) (cwV 2 hts gX10_needWord_X10_wrong rfl rfl rfl (by decide +kernel) ⟨Nat.le_of_ble_eq_true rfl, Nat.le_of_ble_eq_true rfl⟩) hP hD hK hS hA hev rfl rfl rfl rfl hl.1 rfl (Nat.le_of_ble_eq_true rfl) dX10_needWord_14 ⟨(Nat.le_of_ble_eq_true rfl), (Nat.le_of_ble_eq_true rfl)⟩ (fun r u H locs hw hP hD hS => ?_)
    obtain ⟨x23_7, x24_8⟩ := u
    have hw : ((r = some (.int 0) ∧ (0 < x23_7.toInt)) ∨ (r = some (.int 1) ∧ (False))) ∧ (True) := hw
    obtain ⟨⟨rfl, hz2_10⟩ | ⟨rfl, hz2_10⟩, hw_9⟩ := hw
    · have hP : va_P (dC, dI) vwCl (mw g h0 b (va_up (va_up (va_up i 22 x22_1) 23 x23_7) 24 x24_8) a) _ := hP
      have hD : va_D _ (mw g h0 b (va_up (va_up (va_up i 22 x22_1) 23 x23_7) 24 x24_8) a) := hD
      refine W.eq (g2 := F0 m 17 ls [.int 0]) rfl ?_
      exact M_z hx hb hr rfl hlocks (x22_1, x23_7, x24_8) hP hD hK hS ⟨Or.inl ⟨rfl, by omega⟩, ⟨⟨by omega, by omega⟩, by omega, fun h9 => by omega⟩⟩ (Nat.le_of_ble_eq_true rfl) (Nat.le_of_ble_eq_true rfl) dX10_needWord_17
    · have hP : va_P (dC, dI) vwCl (mw g h0 b (va_up (va_up (va_up i 22 x22_1) 23 x23_7) 24 x24_8) a) _ := hP
      have hD : va_D _ (mw g h0 b (va_up (va_up (va_up i 22 x22_1) 23 x23_7) 24 x24_8) a) := hD
      refine W.eq (g2 := F0 m 17 ls [.int 1]) rfl ?_
      exact hz2_10.elim

abbrev rm_X10_number : Room := { frames := 1, cells := 0, slots := 0, locals := 22 }
theorem inw_X10_number_10 : ∀ w ∈ wsX100, w ∈ wsX10_number := by decide +kernel
set_option maxHeartbeats 1000000 in
set_option maxRecDepth 100000 in
theorem m_X10_number (l : Launch) (dC : Nat → ClassId) (dI : Nat → Nat → Nat) (sa : Nat → Nat) (g : Nat → Nat) (h0 : Nat) (b : Nat → Nat) (i : Nat → Int32) (a : Nat → Nat → Int32) (lo : Int32) (hi : Int32) (sz : Nat) (hSI : 0 ≤ (i 22).toInt ∧ (i 22).toInt ≤ (i 21).toInt ∧ (i 21).toInt ≤ 1500) (hFK : 0 ≤ (i 23).toInt) : CT l dC dI sa yX10_number wsX10_number rm_X10_number [.ref h0, .int lo, .int hi] (mw g h0 b i a) (tyM g) sz (fun (r : Option Value) (u : Int32 × Int32 × Int32 × Int32) => match u with | (x22, x23, x24, x25) => ((r = some (.int 0) ∧ (0 < x23.toInt)) ∨ (r = some (.int 1) ∧ (lo.toInt ≤ x25.toInt ∧ x25.toInt ≤ hi.toInt))) ∧ (((i 22).toInt ≤ x22.toInt ∧ x22.toInt ≤ (i 21).toInt) ∧ 0 ≤ x23.toInt ∧ (0 < (i 23).toInt → 0 < x23.toInt))) (fun (u : Int32 × Int32 × Int32 × Int32) => match u with | (x22, x23, x24, x25) => mw g h0 b (va_up (va_up (va_up (va_up i 22 x22) 23 x23) 24 x24) 25 x25) a) (fun _ => []) 0 0 := by
  refine CT.start (cc := cX10_number) (maxL := 4) (ret := (some .boolean)) (by decide) rfl (Nat.le_of_ble_eq_true rfl) ?_
  intro p e s m below meth c ls hst hP hK hD hev hS hl
  obtain ⟨hx, hb, hr, hml, hts, hown, hlocks, hin⟩ := hst
  have hown : s.vm.findClass RX10 = some m.cls := hown
  have hA : ∀ q : Nat, s.heap.size ≤ q → va_A (mw g h0 b i a) s.heap.size q := fun _ h => Or.inr h
  have hl : lv_has ls 4 [(0, .ref h0), (1, .int lo), (2, .int hi)] := hl
  refine lv_aload_n hx hb dX10_number_0 rfl (lv_at hl 0 rfl) ?_
  refine M_V ⟨hx, hb, hml, hown, hts⟩ (m_X10_skip l dC dI sa g h0 b i a  _ (show 0 ≤ (i 22).toInt ∧ (i 22).toInt ≤ (i 21).toInt ∧ (i 21).toInt ≤ 1500 from by omega)) (cwV 0 hts gX10_number_X10_skip rfl rfl rfl (by decide +kernel) ⟨Nat.le_of_ble_eq_true rfl, Nat.le_of_ble_eq_true rfl⟩) hP hD hK hS hA hev rfl rfl rfl rfl hl.1 rfl (Nat.le_of_ble_eq_true rfl) dX10_number_1 ⟨(Nat.le_of_ble_eq_true rfl), (Nat.le_of_ble_eq_true rfl)⟩ (fun r u H locs hw hP hD hS => ?_)
  obtain ⟨x22_1, rfl⟩ : ∃ z, z = u := ⟨_, rfl⟩
  have hw : (r = none) ∧ ((i 22).toInt ≤ x22_1.toInt ∧ x22_1.toInt ≤ (i 21).toInt) := hw
  obtain ⟨rfl, hw_2⟩ := hw
  have hP : va_P (dC, dI) vwCl (mw g h0 b (va_up i 22 x22_1) a) _ := hP
  have hD : va_D _ (mw g h0 b (va_up i 22 x22_1) a) := hD
  refine W.eq (g2 := F0 m 4 ls []) rfl ?_
  refine lv_aload_n hx hb dX10_number_4 rfl (lv_at hl 0 rfl) ?_
  refine va_get (D := (dC, dI)) (ci := 10) (v := .int x22_1) (C := RX10) (T := TX10) (N := 51) hx hb hts inw_X10_number_10 hown hK hP 0 rfl rfl 22 (by decide) (hts (.fieldLink RX10 168 "VatHouseModel" "at" "I") (by decide +kernel)) (fun _ h9 => h9) rfl dX10_number_5 ?_
  refine lv_istore_n (lv' := [(3, .int x22_1), (0, .ref h0), (1, .int lo), (2, .int hi)]) hx hb dX10_number_8 rfl hl (by decide) rfl (fun ls hl => ?_)
  refine lv_aload_n hx hb dX10_number_9 rfl (lv_at hl 1 rfl) ?_
  refine va_get (D := (dC, dI)) (ci := 10) (v := .int x22_1) (C := RX10) (T := TX10) (N := 51) hx hb hts inw_X10_number_10 hown hK hP 0 rfl rfl 22 (by decide) (hts (.fieldLink RX10 168 "VatHouseModel" "at" "I") (by decide +kernel)) (fun _ h9 => h9) rfl dX10_number_10 ?_
  refine lv_aload_n hx hb dX10_number_13 rfl (lv_at hl 1 rfl) ?_
  refine va_get (D := (dC, dI)) (ci := 10) (v := .int (i 21)) (C := RX10) (T := TX10) (N := 51) hx hb hts inw_X10_number_10 hown hK hP 0 rfl rfl 21 (by decide) (hts (.fieldLink RX10 171 "VatHouseModel" "size" "I") (by decide +kernel)) (fun _ h9 => h9) rfl dX10_number_14 ?_
  refine lv_icmp_ge (tgt := 35) hx hb dX10_number_17 (by decide) (fun c_3 => ?_) (fun c_3 => ?_)
  · have nc_3 := le_i c_3
    refine lv_aload_n hx hb dX10_number_35 rfl (lv_at hl 1 rfl) ?_
    refine lv_iconst (v := 1) hx hb dX10_number_36 (by decide) ?_
    refine lv_aload_n hx hb dX10_number_37 rfl (lv_at hl 1 rfl) ?_
    refine va_get (D := (dC, dI)) (ci := 10) (v := .int x22_1) (C := RX10) (T := TX10) (N := 51) hx hb hts inw_X10_number_10 hown hK hP 0 rfl rfl 22 (by decide) (hts (.fieldLink RX10 168 "VatHouseModel" "at" "I") (by decide +kernel)) (fun _ h9 => h9) rfl dX10_number_38 ?_
    refine M_V ⟨hx, hb, hml, hown, hts⟩ (m_X10_wrong l dC dI sa g h0 b (va_up i 22 x22_1) a (1 : Int32) x22_1 _ (by decide) (show 0 ≤ (i 23).toInt from by omega)) (cwV 2 hts gX10_number_X10_wrong rfl rfl rfl (by decide +kernel) ⟨Nat.le_of_ble_eq_true rfl, Nat.le_of_ble_eq_true rfl⟩) hP hD hK hS hA hev rfl rfl rfl rfl hl.1 rfl (Nat.le_of_ble_eq_true rfl) dX10_number_41 ⟨(Nat.le_of_ble_eq_true rfl), (Nat.le_of_ble_eq_true rfl)⟩ (fun r u H locs hw hP hD hS => ?_)
    obtain ⟨x23_4, x24_5⟩ := u
    have hw : ((r = some (.int 0) ∧ (0 < x23_4.toInt)) ∨ (r = some (.int 1) ∧ (False))) ∧ (True) := hw
    obtain ⟨⟨rfl, hz2_7⟩ | ⟨rfl, hz2_7⟩, hw_6⟩ := hw
    · have hP : va_P (dC, dI) vwCl (mw g h0 b (va_up (va_up (va_up i 22 x22_1) 23 x23_4) 24 x24_5) a) _ := hP
      have hD : va_D _ (mw g h0 b (va_up (va_up (va_up i 22 x22_1) 23 x23_4) 24 x24_5) a) := hD
      refine W.eq (g2 := F0 m 44 ls [.int 0]) rfl ?_
      exact M_z hx hb hr rfl hlocks (x22_1, x23_4, x24_5, (i 25)) hP hD hK hS ⟨Or.inl ⟨rfl, by omega⟩, ⟨⟨by omega, by omega⟩, by omega, fun h9 => by omega⟩⟩ (Nat.le_of_ble_eq_true rfl) (Nat.le_of_ble_eq_true rfl) dX10_number_44
    · have hP : va_P (dC, dI) vwCl (mw g h0 b (va_up (va_up (va_up i 22 x22_1) 23 x23_4) 24 x24_5) a) _ := hP
      have hD : va_D _ (mw g h0 b (va_up (va_up (va_up i 22 x22_1) 23 x23_4) 24 x24_5) a) := hD
      refine W.eq (g2 := F0 m 44 ls [.int 1]) rfl ?_
      exact hz2_7.elim
  · have nc_3 := nle_i c_3
    refine lv_aload_n hx hb dX10_number_20 rfl (lv_at hl 1 rfl) ?_
    refine va_get (D := (dC, dI)) (ci := 10) (v := .ref (b 19)) (C := RX10) (T := TX10) (N := 51) hx hb hts inw_X10_number_10 hown hK hP 0 rfl rfl 19 (by decide) (hts (.fieldLink RX10 53 "VatHouseModel" "tape" "[I") (by decide +kernel)) (fun _ h9 => h9) rfl dX10_number_21 ?_
    refine lv_aload_n hx hb dX10_number_24 rfl (lv_at hl 1 rfl) ?_
    refine va_get (D := (dC, dI)) (ci := 10) (v := .int x22_1) (C := RX10) (T := TX10) (N := 51) hx hb hts inw_X10_number_10 hown hK hP 0 rfl rfl 22 (by decide) (hts (.fieldLink RX10 168 "VatHouseModel" "at" "I") (by decide +kernel)) (fun _ h9 => h9) rfl dX10_number_25 ?_
    refine va_iald hx hb hK hP 15 14 rfl rfl (in_i (by omega) (by omega)) dX10_number_28 ?_
    refine lv_topi (fun z_8 ez_8 => ?_)
    have ez_8 : z_8 = (a 19) x22_1.toNatClampNeg := ez_8
    obtain ⟨zl_9, hzl_10, Ml_11⟩ := pu_isDigit l dC dI sa z_8
    refine pu_S ⟨hx, hb, hml, hown, hts⟩ (Ml_11 _) (va_cwS 1 hts gX10_number_X10_isDigit rfl rfl rfl (by decide +kernel) ⟨Nat.le_of_ble_eq_true rfl, Nat.le_of_ble_eq_true rfl⟩) hP hK hS hA hev rfl hl.1 rfl (Nat.le_of_ble_eq_true rfl) dX10_number_29 ⟨Nat.le_of_ble_eq_true rfl, Nat.le_of_ble_eq_true rfl⟩ (fun H locs hP hS => ?_)
    refine W.eq (g2 := F0 m 32 ls [.int zl_9]) rfl ?_
    refine lv_if_ne (tgt := 45) hx hb dX10_number_32 (by decide) (fun c_12 => ?_) (fun c_12 => ?_)
    · have nc_12 := ne_i c_12
      have lc_12 : (0 : Int32).toInt = 0 := by decide
      refine lv_aload_n hx hb dX10_number_45 rfl (lv_at hl 1 rfl) ?_
      refine lv_iconst (v := 0) hx hb dX10_number_46 (by decide) ?_
      refine va_put (D := (dC, dI)) (ci := 10) (v := .int 0) (ty := .int) (C := RX10) (T := TX10) (N := 51) hx hb hts inw_X10_number_10 tyX10 tyX10_ok nmX10 hown hK hP hD hS 0 rfl rfl 25 (by decide) (hts (.fieldLink RX10 243 "VatHouseModel" "value" "I") (by decide +kernel)) (fun _ h9 => h9) rfl (by decide +kernel) rfl rfl (Nat.le_of_ble_eq_true rfl) dX10_number_47 (fun H locs hP hD hS => ?_)
      have hP : va_P (dC, dI) vwCl (mw g h0 b (va_up (va_up i 22 x22_1) 25 (0 : Int32)) a) _ := hP
      have hD : va_D _ (mw g h0 b (va_up (va_up i 22 x22_1) 25 (0 : Int32)) a) := hD
      have lp : ∀ (n : Nat) (l22 : Int32) (l25 : Int32) (H : Heap) (locs : List Loc) (ls : Array Slot), (((i 21).toInt - l22.toInt).toNat < n) → ((i 22).toInt ≤ l22.toInt ∧ l22.toInt ≤ (i 21).toInt) → va_P (dC, dI) vwCl (mw g h0 b (va_up (va_up i 22 l22) 25 l25) a) H → va_D (va_A (mw g h0 b i a) s.heap.size) (mw g h0 b (va_up (va_up i 22 l22) 25 l25) a) → va_S (va_A (mw g h0 b i a) s.heap.size) s.heap H locs → lv_has ls 4 [(3, .int x22_1), (0, .ref h0), (1, .int lo), (2, .int hi)] → W p l e rm_X10_number s m [.ref h0, .int lo, .int hi].toArray below meth c H locs 0 0 (MQ below (Qg (fun (r : Option Value) (u : Int32 × Int32 × Int32 × Int32) => match u with | (x22, x23, x24, x25) => ((r = some (.int 0) ∧ (0 < x23.toInt)) ∨ (r = some (.int 1) ∧ (lo.toInt ≤ x25.toInt ∧ x25.toInt ≤ hi.toInt))) ∧ (((i 22).toInt ≤ x22.toInt ∧ x22.toInt ≤ (i 21).toInt) ∧ 0 ≤ x23.toInt ∧ (0 < (i 23).toInt → 0 < x23.toInt))) (fun u t => QW dC dI (va_A (mw g h0 b i a) s.heap.size) ((fun (u : Int32 × Int32 × Int32 × Int32) => match u with | (x22, x23, x24, x25) => mw g h0 b (va_up (va_up (va_up (va_up i 22 x22) 23 x23) 24 x24) 25 x25) a) u) [] t) (va_A (mw g h0 b i a) s.heap.size)) [.ref h0, .int lo, .int hi].toArray s 0 0 (va_A (mw g h0 b i a) s.heap.size)) (F0 m 50 ls []) := by
        intro n
        induction n with
        | zero => intro l22 l25 H locs ls hm hat hP hD hS hl; exact absurd hm (by omega)
        | succ n ih =>
          intro l22 l25 H locs ls hm hat hP hD hS hl
          refine lv_aload_n hx hb dX10_number_50 rfl (lv_at hl 1 rfl) ?_
          refine va_get (D := (dC, dI)) (ci := 10) (v := .int l22) (C := RX10) (T := TX10) (N := 51) hx hb hts inw_X10_number_10 hown hK hP 0 rfl rfl 22 (by decide) (hts (.fieldLink RX10 168 "VatHouseModel" "at" "I") (by decide +kernel)) (fun _ h9 => h9) rfl dX10_number_51 ?_
          refine lv_aload_n hx hb dX10_number_54 rfl (lv_at hl 1 rfl) ?_
          refine va_get (D := (dC, dI)) (ci := 10) (v := .int (i 21)) (C := RX10) (T := TX10) (N := 51) hx hb hts inw_X10_number_10 hown hK hP 0 rfl rfl 21 (by decide) (hts (.fieldLink RX10 171 "VatHouseModel" "size" "I") (by decide +kernel)) (fun _ h9 => h9) rfl dX10_number_55 ?_
          refine lv_icmp_ge (tgt := 123) hx hb dX10_number_58 (by decide) (fun c_13 => ?_) (fun c_13 => ?_)
          · have nc_13 := le_i c_13
            refine lv_aload_n hx hb dX10_number_123 rfl (lv_at hl 1 rfl) ?_
            refine va_get (D := (dC, dI)) (ci := 10) (v := .int l22) (C := RX10) (T := TX10) (N := 51) hx hb hts inw_X10_number_10 hown hK hP 0 rfl rfl 22 (by decide) (hts (.fieldLink RX10 168 "VatHouseModel" "at" "I") (by decide +kernel)) (fun _ h9 => h9) rfl dX10_number_124 ?_
            refine lv_iload_n hx hb dX10_number_127 rfl (lv_at hl 0 rfl) ?_
            refine lv_isub hx hb dX10_number_128 ?_
            refine lv_topi (fun z_14 ez_14 => ?_)
            refine lv_iconst (v := 4) hx hb dX10_number_129 (by decide) ?_
            refine lv_icmp_gt (tgt := 149) hx hb dX10_number_130 (by decide) (fun c_15 => ?_) (fun c_15 => ?_)
            · have nc_15 := lt_i c_15
              have lc_15 : (4 : Int32).toInt = 4 := by decide
              refine lv_aload_n hx hb dX10_number_149 rfl (lv_at hl 1 rfl) ?_
              refine lv_iconst (v := 2) hx hb dX10_number_150 (by decide) ?_
              refine lv_iload_n hx hb dX10_number_151 rfl (lv_at hl 0 rfl) ?_
              refine M_V ⟨hx, hb, hml, hown, hts⟩ (m_X10_wrong l dC dI sa g h0 b (va_up (va_up i 22 l22) 25 l25) a (2 : Int32) x22_1 _ (by decide) (show 0 ≤ (i 23).toInt from by omega)) (cwV 2 hts gX10_number_X10_wrong rfl rfl rfl (by decide +kernel) ⟨Nat.le_of_ble_eq_true rfl, Nat.le_of_ble_eq_true rfl⟩) hP hD hK hS hA hev rfl rfl rfl rfl hl.1 rfl (Nat.le_of_ble_eq_true rfl) dX10_number_152 ⟨(Nat.le_of_ble_eq_true rfl), (Nat.le_of_ble_eq_true rfl)⟩ (fun r u H locs hw hP hD hS => ?_)
              obtain ⟨x23_16, x24_17⟩ := u
              have hw : ((r = some (.int 0) ∧ (0 < x23_16.toInt)) ∨ (r = some (.int 1) ∧ (False))) ∧ (True) := hw
              obtain ⟨⟨rfl, hz2_19⟩ | ⟨rfl, hz2_19⟩, hw_18⟩ := hw
              · have hP : va_P (dC, dI) vwCl (mw g h0 b (va_up (va_up (va_up (va_up i 22 l22) 23 x23_16) 24 x24_17) 25 l25) a) _ := hP
                have hD : va_D _ (mw g h0 b (va_up (va_up (va_up (va_up i 22 l22) 23 x23_16) 24 x24_17) 25 l25) a) := hD
                refine W.eq (g2 := F0 m 155 ls [.int 0]) rfl ?_
                refine lv_if_eq (tgt := 162) hx hb dX10_number_155 (by decide) (fun _ => ?_) (fun c_20 => absurd c_20 (by decide))
                refine lv_iconst (v := 0) hx hb dX10_number_162 (by decide) ?_
                exact M_z hx hb hr rfl hlocks (l22, x23_16, x24_17, l25) hP hD hK hS ⟨Or.inl ⟨rfl, by omega⟩, ⟨⟨by omega, by omega⟩, by omega, fun h9 => by omega⟩⟩ (Nat.le_of_ble_eq_true rfl) (Nat.le_of_ble_eq_true rfl) dX10_number_163
              · have hP : va_P (dC, dI) vwCl (mw g h0 b (va_up (va_up (va_up (va_up i 22 l22) 23 x23_16) 24 x24_17) 25 l25) a) _ := hP
                have hD : va_D _ (mw g h0 b (va_up (va_up (va_up (va_up i 22 l22) 23 x23_16) 24 x24_17) 25 l25) a) := hD
                refine W.eq (g2 := F0 m 155 ls [.int 1]) rfl ?_
                exact hz2_19.elim
            · have nc_15 := nlt_i c_15
              have lc_15 : (4 : Int32).toInt = 4 := by decide
              refine lv_aload_n hx hb dX10_number_133 rfl (lv_at hl 1 rfl) ?_
              refine va_get (D := (dC, dI)) (ci := 10) (v := .int l25) (C := RX10) (T := TX10) (N := 51) hx hb hts inw_X10_number_10 hown hK hP 0 rfl rfl 25 (by decide) (hts (.fieldLink RX10 243 "VatHouseModel" "value" "I") (by decide +kernel)) (fun _ h9 => h9) rfl dX10_number_134 ?_
              refine lv_iload_n hx hb dX10_number_137 rfl (lv_at hl 2 rfl) ?_
              refine lv_icmp_lt (tgt := 149) hx hb dX10_number_138 (by decide) (fun c_21 => ?_) (fun c_21 => ?_)
              · have nc_21 := lt_i c_21
                refine lv_aload_n hx hb dX10_number_149 rfl (lv_at hl 1 rfl) ?_
                refine lv_iconst (v := 2) hx hb dX10_number_150 (by decide) ?_
                refine lv_iload_n hx hb dX10_number_151 rfl (lv_at hl 0 rfl) ?_
                refine M_V ⟨hx, hb, hml, hown, hts⟩ (m_X10_wrong l dC dI sa g h0 b (va_up (va_up i 22 l22) 25 l25) a (2 : Int32) x22_1 _ (by decide) (show 0 ≤ (i 23).toInt from by omega)) (cwV 2 hts gX10_number_X10_wrong rfl rfl rfl (by decide +kernel) ⟨Nat.le_of_ble_eq_true rfl, Nat.le_of_ble_eq_true rfl⟩) hP hD hK hS hA hev rfl rfl rfl rfl hl.1 rfl (Nat.le_of_ble_eq_true rfl) dX10_number_152 ⟨(Nat.le_of_ble_eq_true rfl), (Nat.le_of_ble_eq_true rfl)⟩ (fun r u H locs hw hP hD hS => ?_)
                obtain ⟨x23_22, x24_23⟩ := u
                have hw : ((r = some (.int 0) ∧ (0 < x23_22.toInt)) ∨ (r = some (.int 1) ∧ (False))) ∧ (True) := hw
                obtain ⟨⟨rfl, hz2_25⟩ | ⟨rfl, hz2_25⟩, hw_24⟩ := hw
                · have hP : va_P (dC, dI) vwCl (mw g h0 b (va_up (va_up (va_up (va_up i 22 l22) 23 x23_22) 24 x24_23) 25 l25) a) _ := hP
                  have hD : va_D _ (mw g h0 b (va_up (va_up (va_up (va_up i 22 l22) 23 x23_22) 24 x24_23) 25 l25) a) := hD
                  refine W.eq (g2 := F0 m 155 ls [.int 0]) rfl ?_
                  refine lv_if_eq (tgt := 162) hx hb dX10_number_155 (by decide) (fun _ => ?_) (fun c_26 => absurd c_26 (by decide))
                  refine lv_iconst (v := 0) hx hb dX10_number_162 (by decide) ?_
                  exact M_z hx hb hr rfl hlocks (l22, x23_22, x24_23, l25) hP hD hK hS ⟨Or.inl ⟨rfl, by omega⟩, ⟨⟨by omega, by omega⟩, by omega, fun h9 => by omega⟩⟩ (Nat.le_of_ble_eq_true rfl) (Nat.le_of_ble_eq_true rfl) dX10_number_163
                · have hP : va_P (dC, dI) vwCl (mw g h0 b (va_up (va_up (va_up (va_up i 22 l22) 23 x23_22) 24 x24_23) 25 l25) a) _ := hP
                  have hD : va_D _ (mw g h0 b (va_up (va_up (va_up (va_up i 22 l22) 23 x23_22) 24 x24_23) 25 l25) a) := hD
                  refine W.eq (g2 := F0 m 155 ls [.int 1]) rfl ?_
                  exact hz2_25.elim
              · have nc_21 := nlt_i c_21
                refine lv_aload_n hx hb dX10_number_141 rfl (lv_at hl 1 rfl) ?_
                refine va_get (D := (dC, dI)) (ci := 10) (v := .int l25) (C := RX10) (T := TX10) (N := 51) hx hb hts inw_X10_number_10 hown hK hP 0 rfl rfl 25 (by decide) (hts (.fieldLink RX10 243 "VatHouseModel" "value" "I") (by decide +kernel)) (fun _ h9 => h9) rfl dX10_number_142 ?_
                refine lv_iload_n hx hb dX10_number_145 rfl (lv_at hl 3 rfl) ?_
                refine lv_icmp_le (tgt := 158) hx hb dX10_number_146 (by decide) (fun c_27 => ?_) (fun c_27 => ?_)
                · have nc_27 := le_i c_27
                  refine lv_iconst (v := 1) hx hb dX10_number_158 (by decide) ?_
                  refine lv_goto (tgt := 163) hx hb dX10_number_159 (by decide) ?_
                  exact M_z hx hb hr rfl hlocks (l22, (i 23), (i 24), l25) hP hD hK hS ⟨Or.inr ⟨rfl, ⟨by omega, by omega⟩⟩, ⟨⟨by omega, by omega⟩, by omega, fun h9 => by omega⟩⟩ (Nat.le_of_ble_eq_true rfl) (Nat.le_of_ble_eq_true rfl) dX10_number_163
                · have nc_27 := nle_i c_27
                  refine lv_aload_n hx hb dX10_number_149 rfl (lv_at hl 1 rfl) ?_
                  refine lv_iconst (v := 2) hx hb dX10_number_150 (by decide) ?_
                  refine lv_iload_n hx hb dX10_number_151 rfl (lv_at hl 0 rfl) ?_
                  refine M_V ⟨hx, hb, hml, hown, hts⟩ (m_X10_wrong l dC dI sa g h0 b (va_up (va_up i 22 l22) 25 l25) a (2 : Int32) x22_1 _ (by decide) (show 0 ≤ (i 23).toInt from by omega)) (cwV 2 hts gX10_number_X10_wrong rfl rfl rfl (by decide +kernel) ⟨Nat.le_of_ble_eq_true rfl, Nat.le_of_ble_eq_true rfl⟩) hP hD hK hS hA hev rfl rfl rfl rfl hl.1 rfl (Nat.le_of_ble_eq_true rfl) dX10_number_152 ⟨(Nat.le_of_ble_eq_true rfl), (Nat.le_of_ble_eq_true rfl)⟩ (fun r u H locs hw hP hD hS => ?_)
                  obtain ⟨x23_28, x24_29⟩ := u
                  have hw : ((r = some (.int 0) ∧ (0 < x23_28.toInt)) ∨ (r = some (.int 1) ∧ (False))) ∧ (True) := hw
                  obtain ⟨⟨rfl, hz2_31⟩ | ⟨rfl, hz2_31⟩, hw_30⟩ := hw
                  · have hP : va_P (dC, dI) vwCl (mw g h0 b (va_up (va_up (va_up (va_up i 22 l22) 23 x23_28) 24 x24_29) 25 l25) a) _ := hP
                    have hD : va_D _ (mw g h0 b (va_up (va_up (va_up (va_up i 22 l22) 23 x23_28) 24 x24_29) 25 l25) a) := hD
                    refine W.eq (g2 := F0 m 155 ls [.int 0]) rfl ?_
                    refine lv_if_eq (tgt := 162) hx hb dX10_number_155 (by decide) (fun _ => ?_) (fun c_32 => absurd c_32 (by decide))
                    refine lv_iconst (v := 0) hx hb dX10_number_162 (by decide) ?_
                    exact M_z hx hb hr rfl hlocks (l22, x23_28, x24_29, l25) hP hD hK hS ⟨Or.inl ⟨rfl, by omega⟩, ⟨⟨by omega, by omega⟩, by omega, fun h9 => by omega⟩⟩ (Nat.le_of_ble_eq_true rfl) (Nat.le_of_ble_eq_true rfl) dX10_number_163
                  · have hP : va_P (dC, dI) vwCl (mw g h0 b (va_up (va_up (va_up (va_up i 22 l22) 23 x23_28) 24 x24_29) 25 l25) a) _ := hP
                    have hD : va_D _ (mw g h0 b (va_up (va_up (va_up (va_up i 22 l22) 23 x23_28) 24 x24_29) 25 l25) a) := hD
                    refine W.eq (g2 := F0 m 155 ls [.int 1]) rfl ?_
                    exact hz2_31.elim
          · have nc_13 := nle_i c_13
            refine lv_aload_n hx hb dX10_number_61 rfl (lv_at hl 1 rfl) ?_
            refine va_get (D := (dC, dI)) (ci := 10) (v := .ref (b 19)) (C := RX10) (T := TX10) (N := 51) hx hb hts inw_X10_number_10 hown hK hP 0 rfl rfl 19 (by decide) (hts (.fieldLink RX10 53 "VatHouseModel" "tape" "[I") (by decide +kernel)) (fun _ h9 => h9) rfl dX10_number_62 ?_
            refine lv_aload_n hx hb dX10_number_65 rfl (lv_at hl 1 rfl) ?_
            refine va_get (D := (dC, dI)) (ci := 10) (v := .int l22) (C := RX10) (T := TX10) (N := 51) hx hb hts inw_X10_number_10 hown hK hP 0 rfl rfl 22 (by decide) (hts (.fieldLink RX10 168 "VatHouseModel" "at" "I") (by decide +kernel)) (fun _ h9 => h9) rfl dX10_number_66 ?_
            refine va_iald hx hb hK hP 15 14 rfl rfl (in_i (by omega) (by omega)) dX10_number_69 ?_
            refine lv_topi (fun z_33 ez_33 => ?_)
            have ez_33 : z_33 = (a 19) l22.toNatClampNeg := ez_33
            obtain ⟨zl_34, hzl_35, Ml_36⟩ := pu_isDigit l dC dI sa z_33
            refine pu_S ⟨hx, hb, hml, hown, hts⟩ (Ml_36 _) (va_cwS 1 hts gX10_number_X10_isDigit rfl rfl rfl (by decide +kernel) ⟨Nat.le_of_ble_eq_true rfl, Nat.le_of_ble_eq_true rfl⟩) hP hK hS hA hev rfl hl.1 rfl (Nat.le_of_ble_eq_true rfl) dX10_number_70 ⟨Nat.le_of_ble_eq_true rfl, Nat.le_of_ble_eq_true rfl⟩ (fun H locs hP hS => ?_)
            refine W.eq (g2 := F0 m 73 ls [.int zl_34]) rfl ?_
            refine lv_if_eq (tgt := 123) hx hb dX10_number_73 (by decide) (fun c_37 => ?_) (fun c_37 => ?_)
            · have nc_37 := eq_i c_37
              have lc_37 : (0 : Int32).toInt = 0 := by decide
              refine lv_aload_n hx hb dX10_number_123 rfl (lv_at hl 1 rfl) ?_
              refine va_get (D := (dC, dI)) (ci := 10) (v := .int l22) (C := RX10) (T := TX10) (N := 51) hx hb hts inw_X10_number_10 hown hK hP 0 rfl rfl 22 (by decide) (hts (.fieldLink RX10 168 "VatHouseModel" "at" "I") (by decide +kernel)) (fun _ h9 => h9) rfl dX10_number_124 ?_
              refine lv_iload_n hx hb dX10_number_127 rfl (lv_at hl 0 rfl) ?_
              refine lv_isub hx hb dX10_number_128 ?_
              refine lv_topi (fun z_38 ez_38 => ?_)
              refine lv_iconst (v := 4) hx hb dX10_number_129 (by decide) ?_
              refine lv_icmp_gt (tgt := 149) hx hb dX10_number_130 (by decide) (fun c_39 => ?_) (fun c_39 => ?_)
              · have nc_39 := lt_i c_39
                have lc_39 : (4 : Int32).toInt = 4 := by decide
                refine lv_aload_n hx hb dX10_number_149 rfl (lv_at hl 1 rfl) ?_
                refine lv_iconst (v := 2) hx hb dX10_number_150 (by decide) ?_
                refine lv_iload_n hx hb dX10_number_151 rfl (lv_at hl 0 rfl) ?_
                refine M_V ⟨hx, hb, hml, hown, hts⟩ (m_X10_wrong l dC dI sa g h0 b (va_up (va_up i 22 l22) 25 l25) a (2 : Int32) x22_1 _ (by decide) (show 0 ≤ (i 23).toInt from by omega)) (cwV 2 hts gX10_number_X10_wrong rfl rfl rfl (by decide +kernel) ⟨Nat.le_of_ble_eq_true rfl, Nat.le_of_ble_eq_true rfl⟩) hP hD hK hS hA hev rfl rfl rfl rfl hl.1 rfl (Nat.le_of_ble_eq_true rfl) dX10_number_152 ⟨(Nat.le_of_ble_eq_true rfl), (Nat.le_of_ble_eq_true rfl)⟩ (fun r u H locs hw hP hD hS => ?_)
                obtain ⟨x23_40, x24_41⟩ := u
                have hw : ((r = some (.int 0) ∧ (0 < x23_40.toInt)) ∨ (r = some (.int 1) ∧ (False))) ∧ (True) := hw
                obtain ⟨⟨rfl, hz2_43⟩ | ⟨rfl, hz2_43⟩, hw_42⟩ := hw
                · have hP : va_P (dC, dI) vwCl (mw g h0 b (va_up (va_up (va_up (va_up i 22 l22) 23 x23_40) 24 x24_41) 25 l25) a) _ := hP
                  have hD : va_D _ (mw g h0 b (va_up (va_up (va_up (va_up i 22 l22) 23 x23_40) 24 x24_41) 25 l25) a) := hD
                  refine W.eq (g2 := F0 m 155 ls [.int 0]) rfl ?_
                  refine lv_if_eq (tgt := 162) hx hb dX10_number_155 (by decide) (fun _ => ?_) (fun c_44 => absurd c_44 (by decide))
                  refine lv_iconst (v := 0) hx hb dX10_number_162 (by decide) ?_
                  exact M_z hx hb hr rfl hlocks (l22, x23_40, x24_41, l25) hP hD hK hS ⟨Or.inl ⟨rfl, by omega⟩, ⟨⟨by omega, by omega⟩, by omega, fun h9 => by omega⟩⟩ (Nat.le_of_ble_eq_true rfl) (Nat.le_of_ble_eq_true rfl) dX10_number_163
                · have hP : va_P (dC, dI) vwCl (mw g h0 b (va_up (va_up (va_up (va_up i 22 l22) 23 x23_40) 24 x24_41) 25 l25) a) _ := hP
                  have hD : va_D _ (mw g h0 b (va_up (va_up (va_up (va_up i 22 l22) 23 x23_40) 24 x24_41) 25 l25) a) := hD
                  refine W.eq (g2 := F0 m 155 ls [.int 1]) rfl ?_
                  exact hz2_43.elim
              · have nc_39 := nlt_i c_39
                have lc_39 : (4 : Int32).toInt = 4 := by decide
                refine lv_aload_n hx hb dX10_number_133 rfl (lv_at hl 1 rfl) ?_
                refine va_get (D := (dC, dI)) (ci := 10) (v := .int l25) (C := RX10) (T := TX10) (N := 51) hx hb hts inw_X10_number_10 hown hK hP 0 rfl rfl 25 (by decide) (hts (.fieldLink RX10 243 "VatHouseModel" "value" "I") (by decide +kernel)) (fun _ h9 => h9) rfl dX10_number_134 ?_
                refine lv_iload_n hx hb dX10_number_137 rfl (lv_at hl 2 rfl) ?_
                refine lv_icmp_lt (tgt := 149) hx hb dX10_number_138 (by decide) (fun c_45 => ?_) (fun c_45 => ?_)
                · have nc_45 := lt_i c_45
                  refine lv_aload_n hx hb dX10_number_149 rfl (lv_at hl 1 rfl) ?_
                  refine lv_iconst (v := 2) hx hb dX10_number_150 (by decide) ?_
                  refine lv_iload_n hx hb dX10_number_151 rfl (lv_at hl 0 rfl) ?_
                  refine M_V ⟨hx, hb, hml, hown, hts⟩ (m_X10_wrong l dC dI sa g h0 b (va_up (va_up i 22 l22) 25 l25) a (2 : Int32) x22_1 _ (by decide) (show 0 ≤ (i 23).toInt from by omega)) (cwV 2 hts gX10_number_X10_wrong rfl rfl rfl (by decide +kernel) ⟨Nat.le_of_ble_eq_true rfl, Nat.le_of_ble_eq_true rfl⟩) hP hD hK hS hA hev rfl rfl rfl rfl hl.1 rfl (Nat.le_of_ble_eq_true rfl) dX10_number_152 ⟨(Nat.le_of_ble_eq_true rfl), (Nat.le_of_ble_eq_true rfl)⟩ (fun r u H locs hw hP hD hS => ?_)
                  obtain ⟨x23_46, x24_47⟩ := u
                  have hw : ((r = some (.int 0) ∧ (0 < x23_46.toInt)) ∨ (r = some (.int 1) ∧ (False))) ∧ (True) := hw
                  obtain ⟨⟨rfl, hz2_49⟩ | ⟨rfl, hz2_49⟩, hw_48⟩ := hw
                  · have hP : va_P (dC, dI) vwCl (mw g h0 b (va_up (va_up (va_up (va_up i 22 l22) 23 x23_46) 24 x24_47) 25 l25) a) _ := hP
                    have hD : va_D _ (mw g h0 b (va_up (va_up (va_up (va_up i 22 l22) 23 x23_46) 24 x24_47) 25 l25) a) := hD
                    refine W.eq (g2 := F0 m 155 ls [.int 0]) rfl ?_
                    refine lv_if_eq (tgt := 162) hx hb dX10_number_155 (by decide) (fun _ => ?_) (fun c_50 => absurd c_50 (by decide))
                    refine lv_iconst (v := 0) hx hb dX10_number_162 (by decide) ?_
                    exact M_z hx hb hr rfl hlocks (l22, x23_46, x24_47, l25) hP hD hK hS ⟨Or.inl ⟨rfl, by omega⟩, ⟨⟨by omega, by omega⟩, by omega, fun h9 => by omega⟩⟩ (Nat.le_of_ble_eq_true rfl) (Nat.le_of_ble_eq_true rfl) dX10_number_163
                  · have hP : va_P (dC, dI) vwCl (mw g h0 b (va_up (va_up (va_up (va_up i 22 l22) 23 x23_46) 24 x24_47) 25 l25) a) _ := hP
                    have hD : va_D _ (mw g h0 b (va_up (va_up (va_up (va_up i 22 l22) 23 x23_46) 24 x24_47) 25 l25) a) := hD
                    refine W.eq (g2 := F0 m 155 ls [.int 1]) rfl ?_
                    exact hz2_49.elim
                · have nc_45 := nlt_i c_45
                  refine lv_aload_n hx hb dX10_number_141 rfl (lv_at hl 1 rfl) ?_
                  refine va_get (D := (dC, dI)) (ci := 10) (v := .int l25) (C := RX10) (T := TX10) (N := 51) hx hb hts inw_X10_number_10 hown hK hP 0 rfl rfl 25 (by decide) (hts (.fieldLink RX10 243 "VatHouseModel" "value" "I") (by decide +kernel)) (fun _ h9 => h9) rfl dX10_number_142 ?_
                  refine lv_iload_n hx hb dX10_number_145 rfl (lv_at hl 3 rfl) ?_
                  refine lv_icmp_le (tgt := 158) hx hb dX10_number_146 (by decide) (fun c_51 => ?_) (fun c_51 => ?_)
                  · have nc_51 := le_i c_51
                    refine lv_iconst (v := 1) hx hb dX10_number_158 (by decide) ?_
                    refine lv_goto (tgt := 163) hx hb dX10_number_159 (by decide) ?_
                    exact M_z hx hb hr rfl hlocks (l22, (i 23), (i 24), l25) hP hD hK hS ⟨Or.inr ⟨rfl, ⟨by omega, by omega⟩⟩, ⟨⟨by omega, by omega⟩, by omega, fun h9 => by omega⟩⟩ (Nat.le_of_ble_eq_true rfl) (Nat.le_of_ble_eq_true rfl) dX10_number_163
                  · have nc_51 := nle_i c_51
                    refine lv_aload_n hx hb dX10_number_149 rfl (lv_at hl 1 rfl) ?_
                    refine lv_iconst (v := 2) hx hb dX10_number_150 (by decide) ?_
                    refine lv_iload_n hx hb dX10_number_151 rfl (lv_at hl 0 rfl) ?_
                    refine M_V ⟨hx, hb, hml, hown, hts⟩ (m_X10_wrong l dC dI sa g h0 b (va_up (va_up i 22 l22) 25 l25) a (2 : Int32) x22_1 _ (by decide) (show 0 ≤ (i 23).toInt from by omega)) (cwV 2 hts gX10_number_X10_wrong rfl rfl rfl (by decide +kernel) ⟨Nat.le_of_ble_eq_true rfl, Nat.le_of_ble_eq_true rfl⟩) hP hD hK hS hA hev rfl rfl rfl rfl hl.1 rfl (Nat.le_of_ble_eq_true rfl) dX10_number_152 ⟨(Nat.le_of_ble_eq_true rfl), (Nat.le_of_ble_eq_true rfl)⟩ (fun r u H locs hw hP hD hS => ?_)
                    obtain ⟨x23_52, x24_53⟩ := u
                    have hw : ((r = some (.int 0) ∧ (0 < x23_52.toInt)) ∨ (r = some (.int 1) ∧ (False))) ∧ (True) := hw
                    obtain ⟨⟨rfl, hz2_55⟩ | ⟨rfl, hz2_55⟩, hw_54⟩ := hw
                    · have hP : va_P (dC, dI) vwCl (mw g h0 b (va_up (va_up (va_up (va_up i 22 l22) 23 x23_52) 24 x24_53) 25 l25) a) _ := hP
                      have hD : va_D _ (mw g h0 b (va_up (va_up (va_up (va_up i 22 l22) 23 x23_52) 24 x24_53) 25 l25) a) := hD
                      refine W.eq (g2 := F0 m 155 ls [.int 0]) rfl ?_
                      refine lv_if_eq (tgt := 162) hx hb dX10_number_155 (by decide) (fun _ => ?_) (fun c_56 => absurd c_56 (by decide))
                      refine lv_iconst (v := 0) hx hb dX10_number_162 (by decide) ?_
                      exact M_z hx hb hr rfl hlocks (l22, x23_52, x24_53, l25) hP hD hK hS ⟨Or.inl ⟨rfl, by omega⟩, ⟨⟨by omega, by omega⟩, by omega, fun h9 => by omega⟩⟩ (Nat.le_of_ble_eq_true rfl) (Nat.le_of_ble_eq_true rfl) dX10_number_163
                    · have hP : va_P (dC, dI) vwCl (mw g h0 b (va_up (va_up (va_up (va_up i 22 l22) 23 x23_52) 24 x24_53) 25 l25) a) _ := hP
                      have hD : va_D _ (mw g h0 b (va_up (va_up (va_up (va_up i 22 l22) 23 x23_52) 24 x24_53) 25 l25) a) := hD
                      refine W.eq (g2 := F0 m 155 ls [.int 1]) rfl ?_
                      exact hz2_55.elim
            · have nc_37 := ne_i c_37
              have lc_37 : (0 : Int32).toInt = 0 := by decide
              refine lv_aload_n hx hb dX10_number_76 rfl (lv_at hl 1 rfl) ?_
              refine va_get (D := (dC, dI)) (ci := 10) (v := .int l22) (C := RX10) (T := TX10) (N := 51) hx hb hts inw_X10_number_10 hown hK hP 0 rfl rfl 22 (by decide) (hts (.fieldLink RX10 168 "VatHouseModel" "at" "I") (by decide +kernel)) (fun _ h9 => h9) rfl dX10_number_77 ?_
              refine lv_iload_n hx hb dX10_number_80 rfl (lv_at hl 0 rfl) ?_
              refine lv_isub hx hb dX10_number_81 ?_
              refine lv_topi (fun z_57 ez_57 => ?_)
              refine lv_iconst (v := 4) hx hb dX10_number_82 (by decide) ?_
              refine lv_icmp_ge (tgt := 110) hx hb dX10_number_83 (by decide) (fun c_58 => ?_) (fun c_58 => ?_)
              · have nc_58 := le_i c_58
                have lc_58 : (4 : Int32).toInt = 4 := by decide
                refine lv_aload_n hx hb dX10_number_110 rfl (lv_at hl 1 rfl) ?_
                refine lv_dup hx hb dX10_number_111 rfl ?_
                refine va_get (D := (dC, dI)) (ci := 10) (v := .int l22) (C := RX10) (T := TX10) (N := 51) hx hb hts inw_X10_number_10 hown hK hP 0 rfl rfl 22 (by decide) (hts (.fieldLink RX10 168 "VatHouseModel" "at" "I") (by decide +kernel)) (fun _ h9 => h9) rfl dX10_number_112 ?_
                refine lv_iconst (v := 1) hx hb dX10_number_115 (by decide) ?_
                refine lv_iadd hx hb dX10_number_116 ?_
                refine lv_topi (fun z_59 ez_59 => ?_)
                refine va_put (D := (dC, dI)) (ci := 10) (v := .int z_59) (ty := .int) (C := RX10) (T := TX10) (N := 51) hx hb hts inw_X10_number_10 tyX10 tyX10_ok nmX10 hown hK hP hD hS 0 rfl rfl 22 (by decide) (hts (.fieldLink RX10 168 "VatHouseModel" "at" "I") (by decide +kernel)) (fun _ h9 => h9) rfl (by decide +kernel) rfl rfl (Nat.le_of_ble_eq_true rfl) dX10_number_117 (fun H locs hP hD hS => ?_)
                have hP : va_P (dC, dI) vwCl (mw g h0 b (va_up (va_up i 22 z_59) 25 l25) a) _ := hP
                have hD : va_D _ (mw g h0 b (va_up (va_up i 22 z_59) 25 l25) a) := hD
                refine lv_goto (tgt := 50) hx hb dX10_number_120 (by decide) ?_
                exact ih z_59 l25 _ _ _ (at_nx hm c_13 ez_59) (by have h9 := incz c_13 ez_59; omega) hP hD hS (lv_sub hl [0, 1, 2, 3] rfl)
              · have nc_58 := nle_i c_58
                have lc_58 : (4 : Int32).toInt = 4 := by decide
                refine lv_aload_n hx hb dX10_number_86 rfl (lv_at hl 1 rfl) ?_
                refine lv_bipush (v := 10) hx hb dX10_number_87 (by decide) ?_
                refine lv_aload_n hx hb dX10_number_89 rfl (lv_at hl 1 rfl) ?_
                refine va_get (D := (dC, dI)) (ci := 10) (v := .int l25) (C := RX10) (T := TX10) (N := 51) hx hb hts inw_X10_number_10 hown hK hP 0 rfl rfl 25 (by decide) (hts (.fieldLink RX10 243 "VatHouseModel" "value" "I") (by decide +kernel)) (fun _ h9 => h9) rfl dX10_number_90 ?_
                refine lv_imul hx hb dX10_number_93 ?_
                refine lv_topi (fun z_60 ez_60 => ?_)
                refine lv_aload_n hx hb dX10_number_94 rfl (lv_at hl 1 rfl) ?_
                refine va_get (D := (dC, dI)) (ci := 10) (v := .ref (b 19)) (C := RX10) (T := TX10) (N := 51) hx hb hts inw_X10_number_10 hown hK hP 0 rfl rfl 19 (by decide) (hts (.fieldLink RX10 53 "VatHouseModel" "tape" "[I") (by decide +kernel)) (fun _ h9 => h9) rfl dX10_number_95 ?_
                refine lv_aload_n hx hb dX10_number_98 rfl (lv_at hl 1 rfl) ?_
                refine va_get (D := (dC, dI)) (ci := 10) (v := .int l22) (C := RX10) (T := TX10) (N := 51) hx hb hts inw_X10_number_10 hown hK hP 0 rfl rfl 22 (by decide) (hts (.fieldLink RX10 168 "VatHouseModel" "at" "I") (by decide +kernel)) (fun _ h9 => h9) rfl dX10_number_99 ?_
                refine va_iald hx hb hK hP 15 14 rfl rfl (in_i (by omega) (by omega)) dX10_number_102 ?_
                refine lv_topi (fun z_61 ez_61 => ?_)
                have ez_61 : z_61 = (a 19) l22.toNatClampNeg := ez_61
                refine lv_iadd hx hb dX10_number_103 ?_
                refine lv_topi (fun z_62 ez_62 => ?_)
                refine lv_bipush (v := 48) hx hb dX10_number_104 (by decide) ?_
                refine lv_isub hx hb dX10_number_106 ?_
                refine lv_topi (fun z_63 ez_63 => ?_)
                refine va_put (D := (dC, dI)) (ci := 10) (v := .int z_63) (ty := .int) (C := RX10) (T := TX10) (N := 51) hx hb hts inw_X10_number_10 tyX10 tyX10_ok nmX10 hown hK hP hD hS 0 rfl rfl 25 (by decide) (hts (.fieldLink RX10 243 "VatHouseModel" "value" "I") (by decide +kernel)) (fun _ h9 => h9) rfl (by decide +kernel) rfl rfl (Nat.le_of_ble_eq_true rfl) dX10_number_107 (fun H locs hP hD hS => ?_)
                have hP : va_P (dC, dI) vwCl (mw g h0 b (va_up (va_up i 22 l22) 25 z_63) a) _ := hP
                have hD : va_D _ (mw g h0 b (va_up (va_up i 22 l22) 25 z_63) a) := hD
                refine lv_aload_n hx hb dX10_number_110 rfl (lv_at hl 1 rfl) ?_
                refine lv_dup hx hb dX10_number_111 rfl ?_
                refine va_get (D := (dC, dI)) (ci := 10) (v := .int l22) (C := RX10) (T := TX10) (N := 51) hx hb hts inw_X10_number_10 hown hK hP 0 rfl rfl 22 (by decide) (hts (.fieldLink RX10 168 "VatHouseModel" "at" "I") (by decide +kernel)) (fun _ h9 => h9) rfl dX10_number_112 ?_
                refine lv_iconst (v := 1) hx hb dX10_number_115 (by decide) ?_
                refine lv_iadd hx hb dX10_number_116 ?_
                refine lv_topi (fun z_64 ez_64 => ?_)
                refine va_put (D := (dC, dI)) (ci := 10) (v := .int z_64) (ty := .int) (C := RX10) (T := TX10) (N := 51) hx hb hts inw_X10_number_10 tyX10 tyX10_ok nmX10 hown hK hP hD hS 0 rfl rfl 22 (by decide) (hts (.fieldLink RX10 168 "VatHouseModel" "at" "I") (by decide +kernel)) (fun _ h9 => h9) rfl (by decide +kernel) rfl rfl (Nat.le_of_ble_eq_true rfl) dX10_number_117 (fun H locs hP hD hS => ?_)
                have hP : va_P (dC, dI) vwCl (mw g h0 b (va_up (va_up i 22 z_64) 25 z_63) a) _ := hP
                have hD : va_D _ (mw g h0 b (va_up (va_up i 22 z_64) 25 z_63) a) := hD
                refine lv_goto (tgt := 50) hx hb dX10_number_120 (by decide) ?_
                exact ih z_64 z_63 _ _ _ (at_nx hm c_13 ez_64) (by have h9 := incz c_13 ez_64; omega) hP hD hS (lv_sub hl [0, 1, 2, 3] rfl)
      exact lp (((i 21).toInt - x22_1.toInt).toNat + 1) x22_1 (0 : Int32) _ _ _ (by omega) (by omega) hP hD hS (lv_sub hl [0, 1, 2, 3] rfl)
    · have nc_12 := eq_i c_12
      have lc_12 : (0 : Int32).toInt = 0 := by decide
      refine lv_aload_n hx hb dX10_number_35 rfl (lv_at hl 1 rfl) ?_
      refine lv_iconst (v := 1) hx hb dX10_number_36 (by decide) ?_
      refine lv_aload_n hx hb dX10_number_37 rfl (lv_at hl 1 rfl) ?_
      refine va_get (D := (dC, dI)) (ci := 10) (v := .int x22_1) (C := RX10) (T := TX10) (N := 51) hx hb hts inw_X10_number_10 hown hK hP 0 rfl rfl 22 (by decide) (hts (.fieldLink RX10 168 "VatHouseModel" "at" "I") (by decide +kernel)) (fun _ h9 => h9) rfl dX10_number_38 ?_
      refine M_V ⟨hx, hb, hml, hown, hts⟩ (m_X10_wrong l dC dI sa g h0 b (va_up i 22 x22_1) a (1 : Int32) x22_1 _ (by decide) (show 0 ≤ (i 23).toInt from by omega)) (cwV 2 hts gX10_number_X10_wrong rfl rfl rfl (by decide +kernel) ⟨Nat.le_of_ble_eq_true rfl, Nat.le_of_ble_eq_true rfl⟩) hP hD hK hS hA hev rfl rfl rfl rfl hl.1 rfl (Nat.le_of_ble_eq_true rfl) dX10_number_41 ⟨(Nat.le_of_ble_eq_true rfl), (Nat.le_of_ble_eq_true rfl)⟩ (fun r u H locs hw hP hD hS => ?_)
      obtain ⟨x23_65, x24_66⟩ := u
      have hw : ((r = some (.int 0) ∧ (0 < x23_65.toInt)) ∨ (r = some (.int 1) ∧ (False))) ∧ (True) := hw
      obtain ⟨⟨rfl, hz2_68⟩ | ⟨rfl, hz2_68⟩, hw_67⟩ := hw
      · have hP : va_P (dC, dI) vwCl (mw g h0 b (va_up (va_up (va_up i 22 x22_1) 23 x23_65) 24 x24_66) a) _ := hP
        have hD : va_D _ (mw g h0 b (va_up (va_up (va_up i 22 x22_1) 23 x23_65) 24 x24_66) a) := hD
        refine W.eq (g2 := F0 m 44 ls [.int 0]) rfl ?_
        exact M_z hx hb hr rfl hlocks (x22_1, x23_65, x24_66, (i 25)) hP hD hK hS ⟨Or.inl ⟨rfl, by omega⟩, ⟨⟨by omega, by omega⟩, by omega, fun h9 => by omega⟩⟩ (Nat.le_of_ble_eq_true rfl) (Nat.le_of_ble_eq_true rfl) dX10_number_44
      · have hP : va_P (dC, dI) vwCl (mw g h0 b (va_up (va_up (va_up i 22 x22_1) 23 x23_65) 24 x24_66) a) _ := hP
        have hD : va_D _ (mw g h0 b (va_up (va_up (va_up i 22 x22_1) 23 x23_65) 24 x24_66) a) := hD
        refine W.eq (g2 := F0 m 44 ls [.int 1]) rfl ?_
        exact hz2_68.elim

abbrev rm_X10_single : Room := { frames := 2, cells := 0, slots := 0, locals := 45 }
theorem inw_X10_single_10 : ∀ w ∈ wsX100, w ∈ wsX10_single := by decide +kernel
set_option maxHeartbeats 1000000 in
set_option maxRecDepth 100000 in
theorem m_X10_single (l : Launch) (dC : Nat → ClassId) (dI : Nat → Nat → Nat) (sa : Nat → Nat) (g : Nat → Nat) (h0 : Nat) (b : Nat → Nat) (i : Nat → Int32) (a : Nat → Nat → Int32) (kk : Int32) (lo : Int32) (hi : Int32) (sz : Nat) (hSI : 0 ≤ (i 22).toInt ∧ (i 22).toInt ≤ (i 21).toInt ∧ (i 21).toInt ≤ 1500) (hFK : 0 ≤ (i 23).toInt) (hk : vp_in kk 2700) : CT l dC dI sa yX10_single wsX10_single rm_X10_single [.ref h0, .int kk, .int lo, .int hi] (mw g h0 b i a) (tyM g) sz (fun (r : Option Value) (u : Int32 × Int32 × Int32 × Int32 × (Nat → Int32)) => match u with | (x22, x23, x24, x25, y27) => ((r = some (.int 0) ∧ (0 < x23.toInt)) ∨ (r = some (.int 1) ∧ (True))) ∧ ((((i 22).toInt ≤ x22.toInt ∧ x22.toInt ≤ (i 21).toInt) ∧ 0 ≤ x23.toInt ∧ (0 < (i 23).toInt → 0 < x23.toInt)) ∧ (y27 = (a 27) ∨ ∃ v : Int32, lo.toInt ≤ v.toInt ∧ v.toInt ≤ hi.toInt ∧ y27 = upd (a 27) kk.toNatClampNeg v))) (fun (u : Int32 × Int32 × Int32 × Int32 × (Nat → Int32)) => match u with | (x22, x23, x24, x25, y27) => mw g h0 b (va_up (va_up (va_up (va_up i 22 x22) 23 x23) 24 x24) 25 x25) (va_up a 27 y27)) (fun _ => []) 0 0 := by
  refine CT.start (cc := cX10_single) (maxL := 4) (ret := (some .boolean)) (by decide) rfl (Nat.le_of_ble_eq_true rfl) ?_
  intro p e s m below meth c ls hst hP hK hD hev hS hl
  obtain ⟨hx, hb, hr, hml, hts, hown, hlocks, hin⟩ := hst
  have hown : s.vm.findClass RX10 = some m.cls := hown
  have hA : ∀ q : Nat, s.heap.size ≤ q → va_A (mw g h0 b i a) s.heap.size q := fun _ h => Or.inr h
  have hl : lv_has ls 4 [(0, .ref h0), (1, .int kk), (2, .int lo), (3, .int hi)] := hl
  refine lv_aload_n hx hb dX10_single_0 rfl (lv_at hl 0 rfl) ?_
  refine lv_iload_n hx hb dX10_single_1 rfl (lv_at hl 2 rfl) ?_
  refine lv_iload_n hx hb dX10_single_2 rfl (lv_at hl 3 rfl) ?_
  refine M_V ⟨hx, hb, hml, hown, hts⟩ (m_X10_number l dC dI sa g h0 b i a lo hi _ (show 0 ≤ (i 22).toInt ∧ (i 22).toInt ≤ (i 21).toInt ∧ (i 21).toInt ≤ 1500 from by omega) (show 0 ≤ (i 23).toInt from by omega)) (cwV 2 hts gX10_single_X10_number rfl rfl rfl (by decide +kernel) ⟨Nat.le_of_ble_eq_true rfl, Nat.le_of_ble_eq_true rfl⟩) hP hD hK hS hA hev rfl rfl rfl rfl hl.1 rfl (Nat.le_of_ble_eq_true rfl) dX10_single_3 ⟨(Nat.le_of_ble_eq_true rfl), (Nat.le_of_ble_eq_true rfl)⟩ (fun r u H locs hw hP hD hS => ?_)
  obtain ⟨x22_1, x23_2, x24_3, x25_4⟩ := u
  have hw : ((r = some (.int 0) ∧ (0 < x23_2.toInt)) ∨ (r = some (.int 1) ∧ (lo.toInt ≤ x25_4.toInt ∧ x25_4.toInt ≤ hi.toInt))) ∧ (((i 22).toInt ≤ x22_1.toInt ∧ x22_1.toInt ≤ (i 21).toInt) ∧ 0 ≤ x23_2.toInt ∧ (0 < (i 23).toInt → 0 < x23_2.toInt)) := hw
  obtain ⟨⟨rfl, hz2_6⟩ | ⟨rfl, hz2_6⟩, hw_5⟩ := hw
  · have hP : va_P (dC, dI) vwCl (mw g h0 b (va_up (va_up (va_up (va_up i 22 x22_1) 23 x23_2) 24 x24_3) 25 x25_4) a) _ := hP
    have hD : va_D _ (mw g h0 b (va_up (va_up (va_up (va_up i 22 x22_1) 23 x23_2) 24 x24_3) 25 x25_4) a) := hD
    refine W.eq (g2 := F0 m 6 ls [.int 0]) rfl ?_
    refine lv_if_ne (tgt := 11) hx hb dX10_single_6 (by decide) (fun c_7 => absurd c_7 (by decide)) (fun _ => ?_)
    refine lv_iconst (v := 0) hx hb dX10_single_9 (by decide) ?_
    exact M_z hx hb hr rfl hlocks (x22_1, x23_2, x24_3, x25_4, (a 27)) hP hD hK hS ⟨Or.inl ⟨rfl, by omega⟩, ⟨⟨⟨by omega, by omega⟩, by omega, fun h9 => by omega⟩, Or.inl rfl⟩⟩ (Nat.le_of_ble_eq_true rfl) (Nat.le_of_ble_eq_true rfl) dX10_single_10
  · have hP : va_P (dC, dI) vwCl (mw g h0 b (va_up (va_up (va_up (va_up i 22 x22_1) 23 x23_2) 24 x24_3) 25 x25_4) a) _ := hP
    have hD : va_D _ (mw g h0 b (va_up (va_up (va_up (va_up i 22 x22_1) 23 x23_2) 24 x24_3) 25 x25_4) a) := hD
    refine W.eq (g2 := F0 m 6 ls [.int 1]) rfl ?_
    refine lv_if_ne (tgt := 11) hx hb dX10_single_6 (by decide) (fun _ => ?_) (fun c_8 => absurd c_8 (by decide))
    refine lv_aload_n hx hb dX10_single_11 rfl (lv_at hl 0 rfl) ?_
    refine va_get (D := (dC, dI)) (ci := 10) (v := .ref (b 27)) (C := RX10) (T := TX10) (N := 51) hx hb hts inw_X10_single_10 hown hK hP 0 rfl rfl 27 (by decide) (hts (.fieldLink RX10 63 "VatHouseModel" "one" "[I") (by decide +kernel)) (fun _ h9 => h9) rfl dX10_single_12 ?_
    refine lv_iload_n hx hb dX10_single_15 rfl (lv_at hl 1 rfl) ?_
    refine lv_aload_n hx hb dX10_single_16 rfl (lv_at hl 0 rfl) ?_
    refine va_get (D := (dC, dI)) (ci := 10) (v := .int x25_4) (C := RX10) (T := TX10) (N := 51) hx hb hts inw_X10_single_10 hown hK hP 0 rfl rfl 25 (by decide) (hts (.fieldLink RX10 243 "VatHouseModel" "value" "I") (by decide +kernel)) (fun _ h9 => h9) rfl dX10_single_17 ?_
    refine va_iast hx hb hK hP hD hS 17 16 rfl rfl (by assumption) dX10_single_20 (fun H locs hP hD hS => ?_)
    have hP : va_P (dC, dI) vwCl (mw g h0 b (va_up (va_up (va_up (va_up i 22 x22_1) 23 x23_2) 24 x24_3) 25 x25_4) (va_up a 27 (upd (a 27) kk.toNatClampNeg x25_4))) _ := hP
    have hD : va_D _ (mw g h0 b (va_up (va_up (va_up (va_up i 22 x22_1) 23 x23_2) 24 x24_3) 25 x25_4) (va_up a 27 (upd (a 27) kk.toNatClampNeg x25_4))) := hD
    obtain ⟨f_9, ef_9⟩ : ∃ z, z = (upd (a 27) kk.toNatClampNeg x25_4) := ⟨_, rfl⟩
    rw [← ef_9] at hP hD
    refine lv_iconst (v := 1) hx hb dX10_single_21 (by decide) ?_
    exact M_z hx hb hr rfl hlocks (x22_1, x23_2, x24_3, x25_4, f_9) hP hD hK hS ⟨Or.inr ⟨rfl, trivial⟩, ⟨⟨⟨by omega, by omega⟩, by omega, fun h9 => by omega⟩, Or.inr ⟨_, hz2_6.1, hz2_6.2, ef_9⟩⟩⟩ (Nat.le_of_ble_eq_true rfl) (Nat.le_of_ble_eq_true rfl) dX10_single_22

abbrev rm_X10_numbers : Room := { frames := 3, cells := 0, slots := 0, locals := 68 }
theorem inw_X10_numbers_10 : ∀ w ∈ wsX100, w ∈ wsX10_numbers := by decide +kernel
set_option maxHeartbeats 1000000 in
set_option maxRecDepth 100000 in
theorem m_X10_numbers (l : Launch) (dC : Nat → ClassId) (dI : Nat → Nat → Nat) (sa : Nat → Nat) (g : Nat → Nat) (h0 : Nat) (b : Nat → Nat) (i : Nat → Int32) (a : Nat → Nat → Int32) (kk : Int32) (vt : Int32) (hi : Int32) (sz : Nat) (hSI : 0 ≤ (i 22).toInt ∧ (i 22).toInt ≤ (i 21).toInt ∧ (i 21).toInt ≤ 1500) (hFK : 0 ≤ (i 23).toInt) (hk : vp_in kk 2700) : CT l dC dI sa yX10_numbers wsX10_numbers rm_X10_numbers [.ref h0, .int kk, .int vt, .int hi] (mw g h0 b i a) (tyM g) sz (fun (r : Option Value) (u : Int32 × Int32 × Int32 × Int32 × (Nat → Int32) × (Nat → Int32)) => match u with | (x22, x23, x24, x25, y27, y28) => ((r = some (.int 0) ∧ (0 < x23.toInt)) ∨ (r = some (.int 1) ∧ (True))) ∧ ((((i 22).toInt ≤ x22.toInt ∧ x22.toInt ≤ (i 21).toInt) ∧ 0 ≤ x23.toInt ∧ (0 < (i 23).toInt → 0 < x23.toInt)) ∧ (y27 = (a 27) ∨ ∃ v : Int32, (0 : Int32).toInt ≤ v.toInt ∧ v.toInt ≤ vt.toInt ∧ y27 = upd (a 27) kk.toNatClampNeg v))) (fun (u : Int32 × Int32 × Int32 × Int32 × (Nat → Int32) × (Nat → Int32)) => match u with | (x22, x23, x24, x25, y27, y28) => mw g h0 b (va_up (va_up (va_up (va_up i 22 x22) 23 x23) 24 x24) 25 x25) (va_up (va_up a 27 y27) 28 y28)) (fun _ => []) 0 0 := by
  refine CT.start (cc := cX10_numbers) (maxL := 4) (ret := (some .boolean)) (by decide) rfl (Nat.le_of_ble_eq_true rfl) ?_
  intro p e s m below meth c ls hst hP hK hD hev hS hl
  obtain ⟨hx, hb, hr, hml, hts, hown, hlocks, hin⟩ := hst
  have hown : s.vm.findClass RX10 = some m.cls := hown
  have hA : ∀ q : Nat, s.heap.size ≤ q → va_A (mw g h0 b i a) s.heap.size q := fun _ h => Or.inr h
  have hl : lv_has ls 4 [(0, .ref h0), (1, .int kk), (2, .int vt), (3, .int hi)] := hl
  refine lv_aload_n hx hb dX10_numbers_0 rfl (lv_at hl 0 rfl) ?_
  refine lv_iload_n hx hb dX10_numbers_1 rfl (lv_at hl 1 rfl) ?_
  refine lv_iconst (v := 0) hx hb dX10_numbers_2 (by decide) ?_
  refine lv_iload_n hx hb dX10_numbers_3 rfl (lv_at hl 2 rfl) ?_
  refine M_V ⟨hx, hb, hml, hown, hts⟩ (m_X10_single l dC dI sa g h0 b i a kk (0 : Int32) vt _ (show 0 ≤ (i 22).toInt ∧ (i 22).toInt ≤ (i 21).toInt ∧ (i 21).toInt ≤ 1500 from by omega) (show 0 ≤ (i 23).toInt from by omega) hk) (cwV 3 hts gX10_numbers_X10_single rfl rfl rfl (by decide +kernel) ⟨Nat.le_of_ble_eq_true rfl, Nat.le_of_ble_eq_true rfl⟩) hP hD hK hS hA hev rfl rfl rfl rfl hl.1 rfl (Nat.le_of_ble_eq_true rfl) dX10_numbers_4 ⟨(Nat.le_of_ble_eq_true rfl), (Nat.le_of_ble_eq_true rfl)⟩ (fun r u H locs hw hP hD hS => ?_)
  obtain ⟨x22_1, x23_2, x24_3, x25_4, y27_5⟩ := u
  have hw : ((r = some (.int 0) ∧ (0 < x23_2.toInt)) ∨ (r = some (.int 1) ∧ (True))) ∧ ((((i 22).toInt ≤ x22_1.toInt ∧ x22_1.toInt ≤ (i 21).toInt) ∧ 0 ≤ x23_2.toInt ∧ (0 < (i 23).toInt → 0 < x23_2.toInt)) ∧ (y27_5 = (a 27) ∨ ∃ v : Int32, (0 : Int32).toInt ≤ v.toInt ∧ v.toInt ≤ vt.toInt ∧ y27_5 = upd (a 27) kk.toNatClampNeg v)) := hw
  obtain ⟨⟨rfl, hz2_7⟩ | ⟨rfl, hz2_7⟩, hw_6⟩ := hw
  · have hP : va_P (dC, dI) vwCl (mw g h0 b (va_up (va_up (va_up (va_up i 22 x22_1) 23 x23_2) 24 x24_3) 25 x25_4) (va_up a 27 y27_5)) _ := hP
    have hD : va_D _ (mw g h0 b (va_up (va_up (va_up (va_up i 22 x22_1) 23 x23_2) 24 x24_3) 25 x25_4) (va_up a 27 y27_5)) := hD
    refine W.eq (g2 := F0 m 7 ls [.int 0]) rfl ?_
    obtain ⟨hatq_9, hset_8⟩ := hw_6
    refine lv_if_eq (tgt := 19) hx hb dX10_numbers_7 (by decide) (fun _ => ?_) (fun c_10 => absurd c_10 (by decide))
    refine lv_iconst (v := 0) hx hb dX10_numbers_19 (by decide) ?_
    exact M_z hx hb hr rfl hlocks (x22_1, x23_2, x24_3, x25_4, y27_5, (a 28)) hP hD hK hS ⟨Or.inl ⟨rfl, by omega⟩, ⟨⟨⟨by omega, by omega⟩, by omega, fun h9 => by omega⟩, hset_8⟩⟩ (Nat.le_of_ble_eq_true rfl) (Nat.le_of_ble_eq_true rfl) dX10_numbers_20
  · have hP : va_P (dC, dI) vwCl (mw g h0 b (va_up (va_up (va_up (va_up i 22 x22_1) 23 x23_2) 24 x24_3) 25 x25_4) (va_up a 27 y27_5)) _ := hP
    have hD : va_D _ (mw g h0 b (va_up (va_up (va_up (va_up i 22 x22_1) 23 x23_2) 24 x24_3) 25 x25_4) (va_up a 27 y27_5)) := hD
    refine W.eq (g2 := F0 m 7 ls [.int 1]) rfl ?_
    obtain ⟨hatq_12, hset_11⟩ := hw_6
    refine lv_if_eq (tgt := 19) hx hb dX10_numbers_7 (by decide) (fun c_13 => absurd c_13 (by decide)) (fun _ => ?_)
    refine lv_aload_n hx hb dX10_numbers_10 rfl (lv_at hl 0 rfl) ?_
    refine lv_iconst (v := 1) hx hb dX10_numbers_11 (by decide) ?_
    refine lv_iload_n hx hb dX10_numbers_12 rfl (lv_at hl 3 rfl) ?_
    refine M_V ⟨hx, hb, hml, hown, hts⟩ (m_X10_number l dC dI sa g h0 b (va_up (va_up (va_up (va_up i 22 x22_1) 23 x23_2) 24 x24_3) 25 x25_4) (va_up a 27 y27_5) (1 : Int32) hi _ (show 0 ≤ x22_1.toInt ∧ x22_1.toInt ≤ (i 21).toInt ∧ (i 21).toInt ≤ 1500 from by omega) (show 0 ≤ x23_2.toInt from by omega)) (cwV 2 hts gX10_numbers_X10_number rfl rfl rfl (by decide +kernel) ⟨Nat.le_of_ble_eq_true rfl, Nat.le_of_ble_eq_true rfl⟩) hP hD hK hS hA hev rfl rfl rfl rfl hl.1 rfl (Nat.le_of_ble_eq_true rfl) dX10_numbers_13 ⟨(Nat.le_of_ble_eq_true rfl), (Nat.le_of_ble_eq_true rfl)⟩ (fun r u H locs hw hP hD hS => ?_)
    obtain ⟨x22_14, x23_15, x24_16, x25_17⟩ := u
    have hw : ((r = some (.int 0) ∧ (0 < x23_15.toInt)) ∨ (r = some (.int 1) ∧ ((1 : Int32).toInt ≤ x25_17.toInt ∧ x25_17.toInt ≤ hi.toInt))) ∧ ((x22_1.toInt ≤ x22_14.toInt ∧ x22_14.toInt ≤ (i 21).toInt) ∧ 0 ≤ x23_15.toInt ∧ (0 < x23_2.toInt → 0 < x23_15.toInt)) := hw
    obtain ⟨⟨rfl, hz2_19⟩ | ⟨rfl, hz2_19⟩, hw_18⟩ := hw
    · have hP : va_P (dC, dI) vwCl (mw g h0 b (va_up (va_up (va_up (va_up i 22 x22_14) 23 x23_15) 24 x24_16) 25 x25_17) (va_up a 27 y27_5)) _ := hP
      have hD : va_D _ (mw g h0 b (va_up (va_up (va_up (va_up i 22 x22_14) 23 x23_15) 24 x24_16) 25 x25_17) (va_up a 27 y27_5)) := hD
      refine W.eq (g2 := F0 m 16 ls [.int 0]) rfl ?_
      refine lv_if_ne (tgt := 21) hx hb dX10_numbers_16 (by decide) (fun c_20 => absurd c_20 (by decide)) (fun _ => ?_)
      refine lv_iconst (v := 0) hx hb dX10_numbers_19 (by decide) ?_
      exact M_z hx hb hr rfl hlocks (x22_14, x23_15, x24_16, x25_17, y27_5, (a 28)) hP hD hK hS ⟨Or.inl ⟨rfl, by omega⟩, ⟨⟨⟨by omega, by omega⟩, by omega, fun h9 => by omega⟩, hset_11⟩⟩ (Nat.le_of_ble_eq_true rfl) (Nat.le_of_ble_eq_true rfl) dX10_numbers_20
    · have hP : va_P (dC, dI) vwCl (mw g h0 b (va_up (va_up (va_up (va_up i 22 x22_14) 23 x23_15) 24 x24_16) 25 x25_17) (va_up a 27 y27_5)) _ := hP
      have hD : va_D _ (mw g h0 b (va_up (va_up (va_up (va_up i 22 x22_14) 23 x23_15) 24 x24_16) 25 x25_17) (va_up a 27 y27_5)) := hD
      refine W.eq (g2 := F0 m 16 ls [.int 1]) rfl ?_
      refine lv_if_ne (tgt := 21) hx hb dX10_numbers_16 (by decide) (fun _ => ?_) (fun c_21 => absurd c_21 (by decide))
      refine lv_aload_n hx hb dX10_numbers_21 rfl (lv_at hl 0 rfl) ?_
      refine va_get (D := (dC, dI)) (ci := 10) (v := .ref (b 28)) (C := RX10) (T := TX10) (N := 51) hx hb hts inw_X10_numbers_10 hown hK hP 0 rfl rfl 28 (by decide) (hts (.fieldLink RX10 66 "VatHouseModel" "two" "[I") (by decide +kernel)) (fun _ h9 => h9) rfl dX10_numbers_22 ?_
      refine lv_iload_n hx hb dX10_numbers_25 rfl (lv_at hl 1 rfl) ?_
      refine lv_aload_n hx hb dX10_numbers_26 rfl (lv_at hl 0 rfl) ?_
      refine va_get (D := (dC, dI)) (ci := 10) (v := .int x25_17) (C := RX10) (T := TX10) (N := 51) hx hb hts inw_X10_numbers_10 hown hK hP 0 rfl rfl 25 (by decide) (hts (.fieldLink RX10 243 "VatHouseModel" "value" "I") (by decide +kernel)) (fun _ h9 => h9) rfl dX10_numbers_27 ?_
      refine va_iast hx hb hK hP hD hS 18 17 rfl rfl (by assumption) dX10_numbers_30 (fun H locs hP hD hS => ?_)
      have hP : va_P (dC, dI) vwCl (mw g h0 b (va_up (va_up (va_up (va_up i 22 x22_14) 23 x23_15) 24 x24_16) 25 x25_17) (va_up (va_up a 27 y27_5) 28 (upd (a 28) kk.toNatClampNeg x25_17))) _ := hP
      have hD : va_D _ (mw g h0 b (va_up (va_up (va_up (va_up i 22 x22_14) 23 x23_15) 24 x24_16) 25 x25_17) (va_up (va_up a 27 y27_5) 28 (upd (a 28) kk.toNatClampNeg x25_17))) := hD
      obtain ⟨f_22, ef_22⟩ : ∃ z, z = (upd (a 28) kk.toNatClampNeg x25_17) := ⟨_, rfl⟩
      rw [← ef_22] at hP hD
      refine lv_iconst (v := 1) hx hb dX10_numbers_31 (by decide) ?_
      exact M_z hx hb hr rfl hlocks (x22_14, x23_15, x24_16, x25_17, y27_5, f_22) hP hD hK hS ⟨Or.inr ⟨rfl, trivial⟩, ⟨⟨⟨by omega, by omega⟩, by omega, fun h9 => by omega⟩, hset_11⟩⟩ (Nat.le_of_ble_eq_true rfl) (Nat.le_of_ble_eq_true rfl) dX10_numbers_32

abbrev rm_X10_test : Room := { frames := 5, cells := 0, slots := 0, locals := 166 }
theorem inw_X10_test_10 : ∀ w ∈ wsX100, w ∈ wsX10_test := by decide +kernel
set_option maxHeartbeats 1000000 in
set_option maxRecDepth 100000 in
theorem m_X10_test (l : Launch) (dC : Nat → ClassId) (dI : Nat → Nat → Nat) (sa : Nat → Nat) (g : Nat → Nat) (h0 : Nat) (b : Nat → Nat) (i : Nat → Int32) (a : Nat → Nat → Int32) (kk : Int32) (sz : Nat) (hSI : 0 ≤ (i 22).toInt ∧ (i 22).toInt ≤ (i 21).toInt ∧ (i 21).toInt ≤ 1500) (hFK : 0 ≤ (i 23).toInt) (hk : vp_in kk 2700) : CT l dC dI sa yX10_test wsX10_test rm_X10_test [.ref h0, .int kk] (mw g h0 b i a) (tyM g) sz (fun (r : Option Value) (u : Int32 × Int32 × Int32 × Int32 × (Nat → Int32) × (Nat → Int32) × (Nat → Int32) × (Nat → Int32)) => match u with | (x22, x23, x24, x25, y27, y28, y29, y30) => ((r = some (.int 0) ∧ (0 < x23.toInt)) ∨ (r = some (.int 1) ∧ (True))) ∧ ((((i 22).toInt ≤ x22.toInt ∧ x22.toInt ≤ (i 21).toInt) ∧ 0 ≤ x23.toInt ∧ (0 < (i 23).toInt → 0 < x23.toInt)) ∧ (y27 = (a 27) ∨ ∃ v : Int32, (0 : Int32).toInt ≤ v.toInt ∧ v.toInt ≤ (5 : Int32).toInt ∧ y27 = upd (a 27) kk.toNatClampNeg v))) (fun (u : Int32 × Int32 × Int32 × Int32 × (Nat → Int32) × (Nat → Int32) × (Nat → Int32) × (Nat → Int32)) => match u with | (x22, x23, x24, x25, y27, y28, y29, y30) => mw g h0 b (va_up (va_up (va_up (va_up i 22 x22) 23 x23) 24 x24) 25 x25) (va_up (va_up (va_up (va_up a 27 y27) 28 y28) 29 y29) 30 y30)) (fun _ => []) 0 0 := by
  refine CT.start (cc := cX10_test) (maxL := 3) (ret := (some .boolean)) (by decide) rfl (Nat.le_of_ble_eq_true rfl) ?_
  intro p e s m below meth c ls hst hP hK hD hev hS hl
  obtain ⟨hx, hb, hr, hml, hts, hown, hlocks, hin⟩ := hst
  have hown : s.vm.findClass RX10 = some m.cls := hown
  have hA : ∀ q : Nat, s.heap.size ≤ q → va_A (mw g h0 b i a) s.heap.size q := fun _ h => Or.inr h
  have hl : lv_has ls 3 [(0, .ref h0), (1, .int kk)] := hl
  refine lv_aload_n hx hb dX10_test_0 rfl (lv_at hl 0 rfl) ?_
  refine M_V ⟨hx, hb, hml, hown, hts⟩ (m_X10_word l dC dI sa g h0 b i a  _ (show 0 ≤ (i 22).toInt ∧ (i 22).toInt ≤ (i 21).toInt ∧ (i 21).toInt ≤ 1500 from by omega)) (cwV 0 hts gX10_test_X10_word rfl rfl rfl (by decide +kernel) ⟨Nat.le_of_ble_eq_true rfl, Nat.le_of_ble_eq_true rfl⟩) hP hD hK hS hA hev rfl rfl rfl rfl hl.1 rfl (Nat.le_of_ble_eq_true rfl) dX10_test_1 ⟨(Nat.le_of_ble_eq_true rfl), (Nat.le_of_ble_eq_true rfl)⟩ (fun r u H locs hw hP hD hS => ?_)
  obtain ⟨x22_1, rfl⟩ : ∃ z, z = u := ⟨_, rfl⟩
  have hw : (∃ z : Int32, r = some (.int z) ∧ (z = -1 ∨ ∃ q : Nat, z = nI q ∧ q ≤ 18 ∧ x22_1.toInt + (lenS.getD q 0 : Int) ≤ (i 21).toInt)) ∧ ((i 22).toInt ≤ x22_1.toInt ∧ x22_1.toInt ≤ (i 21).toInt) := hw
  obtain ⟨⟨z_3, rfl, hz_z_3⟩, hw_2⟩ := hw
  have hP : va_P (dC, dI) vwCl (mw g h0 b (va_up i 22 x22_1) a) _ := hP
  have hD : va_D _ (mw g h0 b (va_up i 22 x22_1) a) := hD
  refine W.eq (g2 := F0 m 4 ls [.int z_3]) rfl ?_
  refine lv_istore_n (lv' := [(2, .int z_3), (0, .ref h0), (1, .int kk)]) hx hb dX10_test_4 rfl hl (by decide) rfl (fun ls hl => ?_)
  refine lv_iload_n hx hb dX10_test_5 rfl (lv_at hl 0 rfl) ?_
  refine lv_bipush (v := 14) hx hb dX10_test_6 (by decide) ?_
  refine lv_icmp_ge (tgt := 21) hx hb dX10_test_8 (by decide) (fun c_4 => ?_) (fun c_4 => ?_)
  · have nc_4 := le_i c_4
    have lc_4 : (14 : Int32).toInt = 14 := by decide
    refine lv_aload_n hx hb dX10_test_21 rfl (lv_at hl 1 rfl) ?_
    refine va_get (D := (dC, dI)) (ci := 10) (v := .ref (b 29)) (C := RX10) (T := TX10) (N := 51) hx hb hts inw_X10_test_10 hown hK hP 0 rfl rfl 29 (by decide) (hts (.fieldLink RX10 69 "VatHouseModel" "look" "[I") (by decide +kernel)) (fun _ h9 => h9) rfl dX10_test_22 ?_
    refine lv_iload_n hx hb dX10_test_25 rfl (lv_at hl 2 rfl) ?_
    refine lv_iload_n hx hb dX10_test_26 rfl (lv_at hl 0 rfl) ?_
    refine va_iast hx hb hK hP hD hS 19 18 rfl rfl (by assumption) dX10_test_27 (fun H locs hP hD hS => ?_)
    have hP : va_P (dC, dI) vwCl (mw g h0 b (va_up i 22 x22_1) (va_up a 29 (upd (a 29) kk.toNatClampNeg z_3))) _ := hP
    have hD : va_D _ (mw g h0 b (va_up i 22 x22_1) (va_up a 29 (upd (a 29) kk.toNatClampNeg z_3))) := hD
    obtain ⟨f_5, ef_5⟩ : ∃ z, z = (upd (a 29) kk.toNatClampNeg z_3) := ⟨_, rfl⟩
    rw [← ef_5] at hP hD
    refine lv_aload_n hx hb dX10_test_28 rfl (lv_at hl 1 rfl) ?_
    refine lv_iload_n hx hb dX10_test_29 rfl (lv_at hl 0 rfl) ?_
    refine M_V ⟨hx, hb, hml, hown, hts⟩ (m_X10_pass l dC dI sa g h0 b (va_up i 22 x22_1) (va_up a 29 f_5) z_3 _ (show 0 ≤ x22_1.toInt ∧ x22_1.toInt ≤ (i 21).toInt ∧ (i 21).toInt ≤ 1500 from by omega) (hz_z_3.resolve_left (fun h9 => absurd (by rw [← h9]; exact c_4 : (14 : Int32) ≤ -1) (by decide)))) (cwV 1 hts gX10_test_X10_pass rfl rfl rfl (by decide +kernel) ⟨Nat.le_of_ble_eq_true rfl, Nat.le_of_ble_eq_true rfl⟩) hP hD hK hS hA hev rfl rfl rfl rfl hl.1 rfl (Nat.le_of_ble_eq_true rfl) dX10_test_30 ⟨(Nat.le_of_ble_eq_true rfl), (Nat.le_of_ble_eq_true rfl)⟩ (fun r u H locs hw hP hD hS => ?_)
    obtain ⟨x22_6, rfl⟩ : ∃ z, z = u := ⟨_, rfl⟩
    have hw : (r = none) ∧ (x22_1.toInt ≤ x22_6.toInt ∧ x22_6.toInt ≤ (i 21).toInt) := hw
    obtain ⟨rfl, hw_7⟩ := hw
    have hP : va_P (dC, dI) vwCl (mw g h0 b (va_up i 22 x22_6) (va_up a 29 f_5)) _ := hP
    have hD : va_D _ (mw g h0 b (va_up i 22 x22_6) (va_up a 29 f_5)) := hD
    refine W.eq (g2 := F0 m 33 ls []) rfl ?_
    refine lv_iload_n hx hb dX10_test_33 rfl (lv_at hl 0 rfl) ?_
    refine lv_bipush (v := 17) hx hb dX10_test_34 (by decide) ?_
    refine lv_icmp_lt (tgt := 51) hx hb dX10_test_36 (by decide) (fun c_8 => ?_) (fun c_8 => ?_)
    · have nc_8 := lt_i c_8
      have lc_8 : (17 : Int32).toInt = 17 := by decide
      refine lv_aload_n hx hb dX10_test_51 rfl (lv_at hl 1 rfl) ?_
      refine M_V ⟨hx, hb, hml, hown, hts⟩ (m_X10_skip l dC dI sa g h0 b (va_up i 22 x22_6) (va_up a 29 f_5)  _ (show 0 ≤ x22_6.toInt ∧ x22_6.toInt ≤ (i 21).toInt ∧ (i 21).toInt ≤ 1500 from by omega)) (cwV 0 hts gX10_test_X10_skip rfl rfl rfl (by decide +kernel) ⟨Nat.le_of_ble_eq_true rfl, Nat.le_of_ble_eq_true rfl⟩) hP hD hK hS hA hev rfl rfl rfl rfl hl.1 rfl (Nat.le_of_ble_eq_true rfl) dX10_test_52 ⟨(Nat.le_of_ble_eq_true rfl), (Nat.le_of_ble_eq_true rfl)⟩ (fun r u H locs hw hP hD hS => ?_)
      obtain ⟨x22_9, rfl⟩ : ∃ z, z = u := ⟨_, rfl⟩
      have hw : (r = none) ∧ (x22_6.toInt ≤ x22_9.toInt ∧ x22_9.toInt ≤ (i 21).toInt) := hw
      obtain ⟨rfl, hw_10⟩ := hw
      have hP : va_P (dC, dI) vwCl (mw g h0 b (va_up i 22 x22_9) (va_up a 29 f_5)) _ := hP
      have hD : va_D _ (mw g h0 b (va_up i 22 x22_9) (va_up a 29 f_5)) := hD
      refine W.eq (g2 := F0 m 55 ls []) rfl ?_
      refine lv_aload_n hx hb dX10_test_55 rfl (lv_at hl 1 rfl) ?_
      refine lv_bipush (v := 60) hx hb dX10_test_56 (by decide) ?_
      refine M_V ⟨hx, hb, hml, hown, hts⟩ (m_X10_isSign l dC dI sa g h0 b (va_up i 22 x22_9) (va_up a 29 f_5) (60 : Int32) _ (show 0 ≤ x22_9.toInt ∧ x22_9.toInt ≤ (i 21).toInt ∧ (i 21).toInt ≤ 1500 from by omega)) (cwV 1 hts gX10_test_X10_isSign rfl rfl rfl (by decide +kernel) ⟨Nat.le_of_ble_eq_true rfl, Nat.le_of_ble_eq_true rfl⟩) hP hD hK hS hA hev rfl rfl rfl rfl hl.1 rfl (Nat.le_of_ble_eq_true rfl) dX10_test_58 ⟨(Nat.le_of_ble_eq_true rfl), (Nat.le_of_ble_eq_true rfl)⟩ (fun r u H locs hw hP hD hS => ?_)
      obtain ⟨x22_11, rfl⟩ : ∃ z, z = u := ⟨_, rfl⟩
      have hw : ((r = some (.int 0) ∧ (True)) ∨ (r = some (.int 1) ∧ (x22_11.toInt < (i 21).toInt))) ∧ (x22_9.toInt ≤ x22_11.toInt ∧ x22_11.toInt ≤ (i 21).toInt) := hw
      obtain ⟨⟨rfl, hz2_13⟩ | ⟨rfl, hz2_13⟩, hw_12⟩ := hw
      · have hP : va_P (dC, dI) vwCl (mw g h0 b (va_up i 22 x22_11) (va_up a 29 f_5)) _ := hP
        have hD : va_D _ (mw g h0 b (va_up i 22 x22_11) (va_up a 29 f_5)) := hD
        refine W.eq (g2 := F0 m 61 ls [.int 0]) rfl ?_
        refine lv_if_ne (tgt := 83) hx hb dX10_test_61 (by decide) (fun c_14 => absurd c_14 (by decide)) (fun _ => ?_)
        refine lv_aload_n hx hb dX10_test_64 rfl (lv_at hl 1 rfl) ?_
        refine lv_bipush (v := 61) hx hb dX10_test_65 (by decide) ?_
        refine M_V ⟨hx, hb, hml, hown, hts⟩ (m_X10_isSign l dC dI sa g h0 b (va_up i 22 x22_11) (va_up a 29 f_5) (61 : Int32) _ (show 0 ≤ x22_11.toInt ∧ x22_11.toInt ≤ (i 21).toInt ∧ (i 21).toInt ≤ 1500 from by omega)) (cwV 1 hts gX10_test_X10_isSign rfl rfl rfl (by decide +kernel) ⟨Nat.le_of_ble_eq_true rfl, Nat.le_of_ble_eq_true rfl⟩) hP hD hK hS hA hev rfl rfl rfl rfl hl.1 rfl (Nat.le_of_ble_eq_true rfl) dX10_test_67 ⟨(Nat.le_of_ble_eq_true rfl), (Nat.le_of_ble_eq_true rfl)⟩ (fun r u H locs hw hP hD hS => ?_)
        obtain ⟨x22_15, rfl⟩ : ∃ z, z = u := ⟨_, rfl⟩
        have hw : ((r = some (.int 0) ∧ (True)) ∨ (r = some (.int 1) ∧ (x22_15.toInt < (i 21).toInt))) ∧ (x22_11.toInt ≤ x22_15.toInt ∧ x22_15.toInt ≤ (i 21).toInt) := hw
        obtain ⟨⟨rfl, hz2_17⟩ | ⟨rfl, hz2_17⟩, hw_16⟩ := hw
        · have hP : va_P (dC, dI) vwCl (mw g h0 b (va_up i 22 x22_15) (va_up a 29 f_5)) _ := hP
          have hD : va_D _ (mw g h0 b (va_up i 22 x22_15) (va_up a 29 f_5)) := hD
          refine W.eq (g2 := F0 m 70 ls [.int 0]) rfl ?_
          refine lv_if_ne (tgt := 83) hx hb dX10_test_70 (by decide) (fun c_18 => absurd c_18 (by decide)) (fun _ => ?_)
          refine lv_aload_n hx hb dX10_test_73 rfl (lv_at hl 1 rfl) ?_
          refine lv_iconst (v := 1) hx hb dX10_test_74 (by decide) ?_
          refine lv_aload_n hx hb dX10_test_75 rfl (lv_at hl 1 rfl) ?_
          refine va_get (D := (dC, dI)) (ci := 10) (v := .int x22_15) (C := RX10) (T := TX10) (N := 51) hx hb hts inw_X10_test_10 hown hK hP 0 rfl rfl 22 (by decide) (hts (.fieldLink RX10 168 "VatHouseModel" "at" "I") (by decide +kernel)) (fun _ h9 => h9) rfl dX10_test_76 ?_
          refine M_V ⟨hx, hb, hml, hown, hts⟩ (m_X10_wrong l dC dI sa g h0 b (va_up i 22 x22_15) (va_up a 29 f_5) (1 : Int32) x22_15 _ (by decide) (show 0 ≤ (i 23).toInt from by omega)) (cwV 2 hts gX10_test_X10_wrong rfl rfl rfl (by decide +kernel) ⟨Nat.le_of_ble_eq_true rfl, Nat.le_of_ble_eq_true rfl⟩) hP hD hK hS hA hev rfl rfl rfl rfl hl.1 rfl (Nat.le_of_ble_eq_true rfl) dX10_test_79 ⟨(Nat.le_of_ble_eq_true rfl), (Nat.le_of_ble_eq_true rfl)⟩ (fun r u H locs hw hP hD hS => ?_)
          obtain ⟨x23_19, x24_20⟩ := u
          have hw : ((r = some (.int 0) ∧ (0 < x23_19.toInt)) ∨ (r = some (.int 1) ∧ (False))) ∧ (True) := hw
          obtain ⟨⟨rfl, hz2_22⟩ | ⟨rfl, hz2_22⟩, hw_21⟩ := hw
          · have hP : va_P (dC, dI) vwCl (mw g h0 b (va_up (va_up (va_up i 22 x22_15) 23 x23_19) 24 x24_20) (va_up a 29 f_5)) _ := hP
            have hD : va_D _ (mw g h0 b (va_up (va_up (va_up i 22 x22_15) 23 x23_19) 24 x24_20) (va_up a 29 f_5)) := hD
            refine W.eq (g2 := F0 m 82 ls [.int 0]) rfl ?_
            exact M_z hx hb hr rfl hlocks (x22_15, x23_19, x24_20, (i 25), (a 27), (a 28), f_5, (a 30)) hP hD hK hS ⟨Or.inl ⟨rfl, by omega⟩, ⟨⟨⟨by omega, by omega⟩, by omega, fun h9 => by omega⟩, Or.inl rfl⟩⟩ (Nat.le_of_ble_eq_true rfl) (Nat.le_of_ble_eq_true rfl) dX10_test_82
          · have hP : va_P (dC, dI) vwCl (mw g h0 b (va_up (va_up (va_up i 22 x22_15) 23 x23_19) 24 x24_20) (va_up a 29 f_5)) _ := hP
            have hD : va_D _ (mw g h0 b (va_up (va_up (va_up i 22 x22_15) 23 x23_19) 24 x24_20) (va_up a 29 f_5)) := hD
            refine W.eq (g2 := F0 m 82 ls [.int 1]) rfl ?_
            exact hz2_22.elim
        · have hP : va_P (dC, dI) vwCl (mw g h0 b (va_up i 22 x22_15) (va_up a 29 f_5)) _ := hP
          have hD : va_D _ (mw g h0 b (va_up i 22 x22_15) (va_up a 29 f_5)) := hD
          refine W.eq (g2 := F0 m 70 ls [.int 1]) rfl ?_
          refine lv_if_ne (tgt := 83) hx hb dX10_test_70 (by decide) (fun _ => ?_) (fun c_23 => absurd c_23 (by decide))
          refine lv_aload_n hx hb dX10_test_83 rfl (lv_at hl 1 rfl) ?_
          refine va_get (D := (dC, dI)) (ci := 10) (v := .ref (b 30)) (C := RX10) (T := TX10) (N := 51) hx hb hts inw_X10_test_10 hown hK hP 0 rfl rfl 30 (by decide) (hts (.fieldLink RX10 72 "VatHouseModel" "sign" "[I") (by decide +kernel)) (fun _ h9 => h9) rfl dX10_test_84 ?_
          refine lv_iload_n hx hb dX10_test_87 rfl (lv_at hl 2 rfl) ?_
          refine lv_aload_n hx hb dX10_test_88 rfl (lv_at hl 1 rfl) ?_
          refine va_get (D := (dC, dI)) (ci := 10) (v := .ref (b 19)) (C := RX10) (T := TX10) (N := 51) hx hb hts inw_X10_test_10 hown hK hP 0 rfl rfl 19 (by decide) (hts (.fieldLink RX10 53 "VatHouseModel" "tape" "[I") (by decide +kernel)) (fun _ h9 => h9) rfl dX10_test_89 ?_
          refine lv_aload_n hx hb dX10_test_92 rfl (lv_at hl 1 rfl) ?_
          refine va_get (D := (dC, dI)) (ci := 10) (v := .int x22_15) (C := RX10) (T := TX10) (N := 51) hx hb hts inw_X10_test_10 hown hK hP 0 rfl rfl 22 (by decide) (hts (.fieldLink RX10 168 "VatHouseModel" "at" "I") (by decide +kernel)) (fun _ h9 => h9) rfl dX10_test_93 ?_
          refine va_iald hx hb hK hP 15 14 rfl rfl (in_i (by omega) (by omega)) dX10_test_96 ?_
          refine lv_topi (fun z_24 ez_24 => ?_)
          have ez_24 : z_24 = (a 19) x22_15.toNatClampNeg := ez_24
          refine va_iast hx hb hK hP hD hS 20 19 rfl rfl (by assumption) dX10_test_97 (fun H locs hP hD hS => ?_)
          have hP : va_P (dC, dI) vwCl (mw g h0 b (va_up i 22 x22_15) (va_up (va_up a 29 f_5) 30 (upd (a 30) kk.toNatClampNeg z_24))) _ := hP
          have hD : va_D _ (mw g h0 b (va_up i 22 x22_15) (va_up (va_up a 29 f_5) 30 (upd (a 30) kk.toNatClampNeg z_24))) := hD
          obtain ⟨f_25, ef_25⟩ : ∃ z, z = (upd (a 30) kk.toNatClampNeg z_24) := ⟨_, rfl⟩
          rw [← ef_25] at hP hD
          refine lv_aload_n hx hb dX10_test_98 rfl (lv_at hl 1 rfl) ?_
          refine lv_dup hx hb dX10_test_99 rfl ?_
          refine va_get (D := (dC, dI)) (ci := 10) (v := .int x22_15) (C := RX10) (T := TX10) (N := 51) hx hb hts inw_X10_test_10 hown hK hP 0 rfl rfl 22 (by decide) (hts (.fieldLink RX10 168 "VatHouseModel" "at" "I") (by decide +kernel)) (fun _ h9 => h9) rfl dX10_test_100 ?_
          refine lv_iconst (v := 1) hx hb dX10_test_103 (by decide) ?_
          refine lv_iadd hx hb dX10_test_104 ?_
          refine lv_topi (fun z_26 ez_26 => ?_)
          have tz9 := incz (y := i 21) (by rw [Int32.le_iff_toInt_le]; omega) ez_26
          refine va_put (D := (dC, dI)) (ci := 10) (v := .int z_26) (ty := .int) (C := RX10) (T := TX10) (N := 51) hx hb hts inw_X10_test_10 tyX10 tyX10_ok nmX10 hown hK hP hD hS 0 rfl rfl 22 (by decide) (hts (.fieldLink RX10 168 "VatHouseModel" "at" "I") (by decide +kernel)) (fun _ h9 => h9) rfl (by decide +kernel) rfl rfl (Nat.le_of_ble_eq_true rfl) dX10_test_105 (fun H locs hP hD hS => ?_)
          have hP : va_P (dC, dI) vwCl (mw g h0 b (va_up i 22 z_26) (va_up (va_up a 29 f_5) 30 f_25)) _ := hP
          have hD : va_D _ (mw g h0 b (va_up i 22 z_26) (va_up (va_up a 29 f_5) 30 f_25)) := hD
          refine lv_aload_n hx hb dX10_test_108 rfl (lv_at hl 1 rfl) ?_
          refine lv_iconst (v := 0) hx hb dX10_test_109 (by decide) ?_
          refine lv_sipush (v := 9999) hx hb dX10_test_110 (by decide) ?_
          refine M_V ⟨hx, hb, hml, hown, hts⟩ (m_X10_number l dC dI sa g h0 b (va_up i 22 z_26) (va_up (va_up a 29 f_5) 30 f_25) (0 : Int32) (9999 : Int32) _ (show 0 ≤ z_26.toInt ∧ z_26.toInt ≤ (i 21).toInt ∧ (i 21).toInt ≤ 1500 from by omega) (show 0 ≤ (i 23).toInt from by omega)) (cwV 2 hts gX10_test_X10_number rfl rfl rfl (by decide +kernel) ⟨Nat.le_of_ble_eq_true rfl, Nat.le_of_ble_eq_true rfl⟩) hP hD hK hS hA hev rfl rfl rfl rfl hl.1 rfl (Nat.le_of_ble_eq_true rfl) dX10_test_113 ⟨(Nat.le_of_ble_eq_true rfl), (Nat.le_of_ble_eq_true rfl)⟩ (fun r u H locs hw hP hD hS => ?_)
          obtain ⟨x22_27, x23_28, x24_29, x25_30⟩ := u
          have hw : ((r = some (.int 0) ∧ (0 < x23_28.toInt)) ∨ (r = some (.int 1) ∧ ((0 : Int32).toInt ≤ x25_30.toInt ∧ x25_30.toInt ≤ (9999 : Int32).toInt))) ∧ ((z_26.toInt ≤ x22_27.toInt ∧ x22_27.toInt ≤ (i 21).toInt) ∧ 0 ≤ x23_28.toInt ∧ (0 < (i 23).toInt → 0 < x23_28.toInt)) := hw
          obtain ⟨⟨rfl, hz2_32⟩ | ⟨rfl, hz2_32⟩, hw_31⟩ := hw
          · have hP : va_P (dC, dI) vwCl (mw g h0 b (va_up (va_up (va_up (va_up i 22 x22_27) 23 x23_28) 24 x24_29) 25 x25_30) (va_up (va_up a 29 f_5) 30 f_25)) _ := hP
            have hD : va_D _ (mw g h0 b (va_up (va_up (va_up (va_up i 22 x22_27) 23 x23_28) 24 x24_29) 25 x25_30) (va_up (va_up a 29 f_5) 30 f_25)) := hD
            refine W.eq (g2 := F0 m 116 ls [.int 0]) rfl ?_
            refine lv_if_ne (tgt := 121) hx hb dX10_test_116 (by decide) (fun c_33 => absurd c_33 (by decide)) (fun _ => ?_)
            refine lv_iconst (v := 0) hx hb dX10_test_119 (by decide) ?_
            exact M_z hx hb hr rfl hlocks (x22_27, x23_28, x24_29, x25_30, (a 27), (a 28), f_5, f_25) hP hD hK hS ⟨Or.inl ⟨rfl, by omega⟩, ⟨⟨⟨by omega, by omega⟩, by omega, fun h9 => by omega⟩, Or.inl rfl⟩⟩ (Nat.le_of_ble_eq_true rfl) (Nat.le_of_ble_eq_true rfl) dX10_test_120
          · have hP : va_P (dC, dI) vwCl (mw g h0 b (va_up (va_up (va_up (va_up i 22 x22_27) 23 x23_28) 24 x24_29) 25 x25_30) (va_up (va_up a 29 f_5) 30 f_25)) _ := hP
            have hD : va_D _ (mw g h0 b (va_up (va_up (va_up (va_up i 22 x22_27) 23 x23_28) 24 x24_29) 25 x25_30) (va_up (va_up a 29 f_5) 30 f_25)) := hD
            refine W.eq (g2 := F0 m 116 ls [.int 1]) rfl ?_
            refine lv_if_ne (tgt := 121) hx hb dX10_test_116 (by decide) (fun _ => ?_) (fun c_34 => absurd c_34 (by decide))
            refine lv_aload_n hx hb dX10_test_121 rfl (lv_at hl 1 rfl) ?_
            refine va_get (D := (dC, dI)) (ci := 10) (v := .ref (b 28)) (C := RX10) (T := TX10) (N := 51) hx hb hts inw_X10_test_10 hown hK hP 0 rfl rfl 28 (by decide) (hts (.fieldLink RX10 66 "VatHouseModel" "two" "[I") (by decide +kernel)) (fun _ h9 => h9) rfl dX10_test_122 ?_
            refine lv_iload_n hx hb dX10_test_125 rfl (lv_at hl 2 rfl) ?_
            refine lv_aload_n hx hb dX10_test_126 rfl (lv_at hl 1 rfl) ?_
            refine va_get (D := (dC, dI)) (ci := 10) (v := .int x25_30) (C := RX10) (T := TX10) (N := 51) hx hb hts inw_X10_test_10 hown hK hP 0 rfl rfl 25 (by decide) (hts (.fieldLink RX10 243 "VatHouseModel" "value" "I") (by decide +kernel)) (fun _ h9 => h9) rfl dX10_test_127 ?_
            refine va_iast hx hb hK hP hD hS 18 17 rfl rfl (by assumption) dX10_test_130 (fun H locs hP hD hS => ?_)
            have hP : va_P (dC, dI) vwCl (mw g h0 b (va_up (va_up (va_up (va_up i 22 x22_27) 23 x23_28) 24 x24_29) 25 x25_30) (va_up (va_up (va_up a 28 (upd (a 28) kk.toNatClampNeg x25_30)) 29 f_5) 30 f_25)) _ := hP
            have hD : va_D _ (mw g h0 b (va_up (va_up (va_up (va_up i 22 x22_27) 23 x23_28) 24 x24_29) 25 x25_30) (va_up (va_up (va_up a 28 (upd (a 28) kk.toNatClampNeg x25_30)) 29 f_5) 30 f_25)) := hD
            obtain ⟨f_35, ef_35⟩ : ∃ z, z = (upd (a 28) kk.toNatClampNeg x25_30) := ⟨_, rfl⟩
            rw [← ef_35] at hP hD
            refine lv_iconst (v := 1) hx hb dX10_test_131 (by decide) ?_
            exact M_z hx hb hr rfl hlocks (x22_27, x23_28, x24_29, x25_30, (a 27), f_35, f_5, f_25) hP hD hK hS ⟨Or.inr ⟨rfl, trivial⟩, ⟨⟨⟨by omega, by omega⟩, by omega, fun h9 => by omega⟩, Or.inl rfl⟩⟩ (Nat.le_of_ble_eq_true rfl) (Nat.le_of_ble_eq_true rfl) dX10_test_132
      · have hP : va_P (dC, dI) vwCl (mw g h0 b (va_up i 22 x22_11) (va_up a 29 f_5)) _ := hP
        have hD : va_D _ (mw g h0 b (va_up i 22 x22_11) (va_up a 29 f_5)) := hD
        refine W.eq (g2 := F0 m 61 ls [.int 1]) rfl ?_
        refine lv_if_ne (tgt := 83) hx hb dX10_test_61 (by decide) (fun _ => ?_) (fun c_36 => absurd c_36 (by decide))
        refine lv_aload_n hx hb dX10_test_83 rfl (lv_at hl 1 rfl) ?_
        refine va_get (D := (dC, dI)) (ci := 10) (v := .ref (b 30)) (C := RX10) (T := TX10) (N := 51) hx hb hts inw_X10_test_10 hown hK hP 0 rfl rfl 30 (by decide) (hts (.fieldLink RX10 72 "VatHouseModel" "sign" "[I") (by decide +kernel)) (fun _ h9 => h9) rfl dX10_test_84 ?_
        refine lv_iload_n hx hb dX10_test_87 rfl (lv_at hl 2 rfl) ?_
        refine lv_aload_n hx hb dX10_test_88 rfl (lv_at hl 1 rfl) ?_
        refine va_get (D := (dC, dI)) (ci := 10) (v := .ref (b 19)) (C := RX10) (T := TX10) (N := 51) hx hb hts inw_X10_test_10 hown hK hP 0 rfl rfl 19 (by decide) (hts (.fieldLink RX10 53 "VatHouseModel" "tape" "[I") (by decide +kernel)) (fun _ h9 => h9) rfl dX10_test_89 ?_
        refine lv_aload_n hx hb dX10_test_92 rfl (lv_at hl 1 rfl) ?_
        refine va_get (D := (dC, dI)) (ci := 10) (v := .int x22_11) (C := RX10) (T := TX10) (N := 51) hx hb hts inw_X10_test_10 hown hK hP 0 rfl rfl 22 (by decide) (hts (.fieldLink RX10 168 "VatHouseModel" "at" "I") (by decide +kernel)) (fun _ h9 => h9) rfl dX10_test_93 ?_
        refine va_iald hx hb hK hP 15 14 rfl rfl (in_i (by omega) (by omega)) dX10_test_96 ?_
        refine lv_topi (fun z_37 ez_37 => ?_)
        have ez_37 : z_37 = (a 19) x22_11.toNatClampNeg := ez_37
        refine va_iast hx hb hK hP hD hS 20 19 rfl rfl (by assumption) dX10_test_97 (fun H locs hP hD hS => ?_)
        have hP : va_P (dC, dI) vwCl (mw g h0 b (va_up i 22 x22_11) (va_up (va_up a 29 f_5) 30 (upd (a 30) kk.toNatClampNeg z_37))) _ := hP
        have hD : va_D _ (mw g h0 b (va_up i 22 x22_11) (va_up (va_up a 29 f_5) 30 (upd (a 30) kk.toNatClampNeg z_37))) := hD
        obtain ⟨f_38, ef_38⟩ : ∃ z, z = (upd (a 30) kk.toNatClampNeg z_37) := ⟨_, rfl⟩
        rw [← ef_38] at hP hD
        refine lv_aload_n hx hb dX10_test_98 rfl (lv_at hl 1 rfl) ?_
        refine lv_dup hx hb dX10_test_99 rfl ?_
        refine va_get (D := (dC, dI)) (ci := 10) (v := .int x22_11) (C := RX10) (T := TX10) (N := 51) hx hb hts inw_X10_test_10 hown hK hP 0 rfl rfl 22 (by decide) (hts (.fieldLink RX10 168 "VatHouseModel" "at" "I") (by decide +kernel)) (fun _ h9 => h9) rfl dX10_test_100 ?_
        refine lv_iconst (v := 1) hx hb dX10_test_103 (by decide) ?_
        refine lv_iadd hx hb dX10_test_104 ?_
        refine lv_topi (fun z_39 ez_39 => ?_)
        have tz9 := incz (y := i 21) (by rw [Int32.le_iff_toInt_le]; omega) ez_39
        refine va_put (D := (dC, dI)) (ci := 10) (v := .int z_39) (ty := .int) (C := RX10) (T := TX10) (N := 51) hx hb hts inw_X10_test_10 tyX10 tyX10_ok nmX10 hown hK hP hD hS 0 rfl rfl 22 (by decide) (hts (.fieldLink RX10 168 "VatHouseModel" "at" "I") (by decide +kernel)) (fun _ h9 => h9) rfl (by decide +kernel) rfl rfl (Nat.le_of_ble_eq_true rfl) dX10_test_105 (fun H locs hP hD hS => ?_)
        have hP : va_P (dC, dI) vwCl (mw g h0 b (va_up i 22 z_39) (va_up (va_up a 29 f_5) 30 f_38)) _ := hP
        have hD : va_D _ (mw g h0 b (va_up i 22 z_39) (va_up (va_up a 29 f_5) 30 f_38)) := hD
        refine lv_aload_n hx hb dX10_test_108 rfl (lv_at hl 1 rfl) ?_
        refine lv_iconst (v := 0) hx hb dX10_test_109 (by decide) ?_
        refine lv_sipush (v := 9999) hx hb dX10_test_110 (by decide) ?_
        refine M_V ⟨hx, hb, hml, hown, hts⟩ (m_X10_number l dC dI sa g h0 b (va_up i 22 z_39) (va_up (va_up a 29 f_5) 30 f_38) (0 : Int32) (9999 : Int32) _ (show 0 ≤ z_39.toInt ∧ z_39.toInt ≤ (i 21).toInt ∧ (i 21).toInt ≤ 1500 from by omega) (show 0 ≤ (i 23).toInt from by omega)) (cwV 2 hts gX10_test_X10_number rfl rfl rfl (by decide +kernel) ⟨Nat.le_of_ble_eq_true rfl, Nat.le_of_ble_eq_true rfl⟩) hP hD hK hS hA hev rfl rfl rfl rfl hl.1 rfl (Nat.le_of_ble_eq_true rfl) dX10_test_113 ⟨(Nat.le_of_ble_eq_true rfl), (Nat.le_of_ble_eq_true rfl)⟩ (fun r u H locs hw hP hD hS => ?_)
        obtain ⟨x22_40, x23_41, x24_42, x25_43⟩ := u
        have hw : ((r = some (.int 0) ∧ (0 < x23_41.toInt)) ∨ (r = some (.int 1) ∧ ((0 : Int32).toInt ≤ x25_43.toInt ∧ x25_43.toInt ≤ (9999 : Int32).toInt))) ∧ ((z_39.toInt ≤ x22_40.toInt ∧ x22_40.toInt ≤ (i 21).toInt) ∧ 0 ≤ x23_41.toInt ∧ (0 < (i 23).toInt → 0 < x23_41.toInt)) := hw
        obtain ⟨⟨rfl, hz2_45⟩ | ⟨rfl, hz2_45⟩, hw_44⟩ := hw
        · have hP : va_P (dC, dI) vwCl (mw g h0 b (va_up (va_up (va_up (va_up i 22 x22_40) 23 x23_41) 24 x24_42) 25 x25_43) (va_up (va_up a 29 f_5) 30 f_38)) _ := hP
          have hD : va_D _ (mw g h0 b (va_up (va_up (va_up (va_up i 22 x22_40) 23 x23_41) 24 x24_42) 25 x25_43) (va_up (va_up a 29 f_5) 30 f_38)) := hD
          refine W.eq (g2 := F0 m 116 ls [.int 0]) rfl ?_
          refine lv_if_ne (tgt := 121) hx hb dX10_test_116 (by decide) (fun c_46 => absurd c_46 (by decide)) (fun _ => ?_)
          refine lv_iconst (v := 0) hx hb dX10_test_119 (by decide) ?_
          exact M_z hx hb hr rfl hlocks (x22_40, x23_41, x24_42, x25_43, (a 27), (a 28), f_5, f_38) hP hD hK hS ⟨Or.inl ⟨rfl, by omega⟩, ⟨⟨⟨by omega, by omega⟩, by omega, fun h9 => by omega⟩, Or.inl rfl⟩⟩ (Nat.le_of_ble_eq_true rfl) (Nat.le_of_ble_eq_true rfl) dX10_test_120
        · have hP : va_P (dC, dI) vwCl (mw g h0 b (va_up (va_up (va_up (va_up i 22 x22_40) 23 x23_41) 24 x24_42) 25 x25_43) (va_up (va_up a 29 f_5) 30 f_38)) _ := hP
          have hD : va_D _ (mw g h0 b (va_up (va_up (va_up (va_up i 22 x22_40) 23 x23_41) 24 x24_42) 25 x25_43) (va_up (va_up a 29 f_5) 30 f_38)) := hD
          refine W.eq (g2 := F0 m 116 ls [.int 1]) rfl ?_
          refine lv_if_ne (tgt := 121) hx hb dX10_test_116 (by decide) (fun _ => ?_) (fun c_47 => absurd c_47 (by decide))
          refine lv_aload_n hx hb dX10_test_121 rfl (lv_at hl 1 rfl) ?_
          refine va_get (D := (dC, dI)) (ci := 10) (v := .ref (b 28)) (C := RX10) (T := TX10) (N := 51) hx hb hts inw_X10_test_10 hown hK hP 0 rfl rfl 28 (by decide) (hts (.fieldLink RX10 66 "VatHouseModel" "two" "[I") (by decide +kernel)) (fun _ h9 => h9) rfl dX10_test_122 ?_
          refine lv_iload_n hx hb dX10_test_125 rfl (lv_at hl 2 rfl) ?_
          refine lv_aload_n hx hb dX10_test_126 rfl (lv_at hl 1 rfl) ?_
          refine va_get (D := (dC, dI)) (ci := 10) (v := .int x25_43) (C := RX10) (T := TX10) (N := 51) hx hb hts inw_X10_test_10 hown hK hP 0 rfl rfl 25 (by decide) (hts (.fieldLink RX10 243 "VatHouseModel" "value" "I") (by decide +kernel)) (fun _ h9 => h9) rfl dX10_test_127 ?_
          refine va_iast hx hb hK hP hD hS 18 17 rfl rfl (by assumption) dX10_test_130 (fun H locs hP hD hS => ?_)
          have hP : va_P (dC, dI) vwCl (mw g h0 b (va_up (va_up (va_up (va_up i 22 x22_40) 23 x23_41) 24 x24_42) 25 x25_43) (va_up (va_up (va_up a 28 (upd (a 28) kk.toNatClampNeg x25_43)) 29 f_5) 30 f_38)) _ := hP
          have hD : va_D _ (mw g h0 b (va_up (va_up (va_up (va_up i 22 x22_40) 23 x23_41) 24 x24_42) 25 x25_43) (va_up (va_up (va_up a 28 (upd (a 28) kk.toNatClampNeg x25_43)) 29 f_5) 30 f_38)) := hD
          obtain ⟨f_48, ef_48⟩ : ∃ z, z = (upd (a 28) kk.toNatClampNeg x25_43) := ⟨_, rfl⟩
          rw [← ef_48] at hP hD
          refine lv_iconst (v := 1) hx hb dX10_test_131 (by decide) ?_
          exact M_z hx hb hr rfl hlocks (x22_40, x23_41, x24_42, x25_43, (a 27), f_48, f_5, f_38) hP hD hK hS ⟨Or.inr ⟨rfl, trivial⟩, ⟨⟨⟨by omega, by omega⟩, by omega, fun h9 => by omega⟩, Or.inl rfl⟩⟩ (Nat.le_of_ble_eq_true rfl) (Nat.le_of_ble_eq_true rfl) dX10_test_132
    · have nc_8 := nlt_i c_8
      have lc_8 : (17 : Int32).toInt = 17 := by decide
      refine lv_aload_n hx hb dX10_test_39 rfl (lv_at hl 1 rfl) ?_
      refine lv_iload_n hx hb dX10_test_40 rfl (lv_at hl 2 rfl) ?_
      refine lv_iconst (v := 0) hx hb dX10_test_41 (by decide) ?_
      refine lv_iconst (v := 5) hx hb dX10_test_42 (by decide) ?_
      refine M_V ⟨hx, hb, hml, hown, hts⟩ (m_X10_single l dC dI sa g h0 b (va_up i 22 x22_6) (va_up a 29 f_5) kk (0 : Int32) (5 : Int32) _ (show 0 ≤ x22_6.toInt ∧ x22_6.toInt ≤ (i 21).toInt ∧ (i 21).toInt ≤ 1500 from by omega) (show 0 ≤ (i 23).toInt from by omega) hk) (cwV 3 hts gX10_test_X10_single rfl rfl rfl (by decide +kernel) ⟨Nat.le_of_ble_eq_true rfl, Nat.le_of_ble_eq_true rfl⟩) hP hD hK hS hA hev rfl rfl rfl rfl hl.1 rfl (Nat.le_of_ble_eq_true rfl) dX10_test_43 ⟨(Nat.le_of_ble_eq_true rfl), (Nat.le_of_ble_eq_true rfl)⟩ (fun r u H locs hw hP hD hS => ?_)
      obtain ⟨x22_49, x23_50, x24_51, x25_52, y27_53⟩ := u
      have hw : ((r = some (.int 0) ∧ (0 < x23_50.toInt)) ∨ (r = some (.int 1) ∧ (True))) ∧ (((x22_6.toInt ≤ x22_49.toInt ∧ x22_49.toInt ≤ (i 21).toInt) ∧ 0 ≤ x23_50.toInt ∧ (0 < (i 23).toInt → 0 < x23_50.toInt)) ∧ (y27_53 = (a 27) ∨ ∃ v : Int32, (0 : Int32).toInt ≤ v.toInt ∧ v.toInt ≤ (5 : Int32).toInt ∧ y27_53 = upd (a 27) kk.toNatClampNeg v)) := hw
      obtain ⟨⟨rfl, hz2_55⟩ | ⟨rfl, hz2_55⟩, hw_54⟩ := hw
      · have hP : va_P (dC, dI) vwCl (mw g h0 b (va_up (va_up (va_up (va_up i 22 x22_49) 23 x23_50) 24 x24_51) 25 x25_52) (va_up (va_up a 27 y27_53) 29 f_5)) _ := hP
        have hD : va_D _ (mw g h0 b (va_up (va_up (va_up (va_up i 22 x22_49) 23 x23_50) 24 x24_51) 25 x25_52) (va_up (va_up a 27 y27_53) 29 f_5)) := hD
        refine W.eq (g2 := F0 m 46 ls [.int 0]) rfl ?_
        obtain ⟨hatq_57, hset_56⟩ := hw_54
        refine lv_if_ne (tgt := 51) hx hb dX10_test_46 (by decide) (fun c_58 => absurd c_58 (by decide)) (fun _ => ?_)
        refine lv_iconst (v := 0) hx hb dX10_test_49 (by decide) ?_
        exact M_z hx hb hr rfl hlocks (x22_49, x23_50, x24_51, x25_52, y27_53, (a 28), f_5, (a 30)) hP hD hK hS ⟨Or.inl ⟨rfl, by omega⟩, ⟨⟨⟨by omega, by omega⟩, by omega, fun h9 => by omega⟩, hset_56⟩⟩ (Nat.le_of_ble_eq_true rfl) (Nat.le_of_ble_eq_true rfl) dX10_test_50
      · have hP : va_P (dC, dI) vwCl (mw g h0 b (va_up (va_up (va_up (va_up i 22 x22_49) 23 x23_50) 24 x24_51) 25 x25_52) (va_up (va_up a 27 y27_53) 29 f_5)) _ := hP
        have hD : va_D _ (mw g h0 b (va_up (va_up (va_up (va_up i 22 x22_49) 23 x23_50) 24 x24_51) 25 x25_52) (va_up (va_up a 27 y27_53) 29 f_5)) := hD
        refine W.eq (g2 := F0 m 46 ls [.int 1]) rfl ?_
        obtain ⟨hatq_60, hset_59⟩ := hw_54
        refine lv_if_ne (tgt := 51) hx hb dX10_test_46 (by decide) (fun _ => ?_) (fun c_61 => absurd c_61 (by decide))
        refine lv_aload_n hx hb dX10_test_51 rfl (lv_at hl 1 rfl) ?_
        refine M_V ⟨hx, hb, hml, hown, hts⟩ (m_X10_skip l dC dI sa g h0 b (va_up (va_up (va_up (va_up i 22 x22_49) 23 x23_50) 24 x24_51) 25 x25_52) (va_up (va_up a 27 y27_53) 29 f_5)  _ (show 0 ≤ x22_49.toInt ∧ x22_49.toInt ≤ (i 21).toInt ∧ (i 21).toInt ≤ 1500 from by omega)) (cwV 0 hts gX10_test_X10_skip rfl rfl rfl (by decide +kernel) ⟨Nat.le_of_ble_eq_true rfl, Nat.le_of_ble_eq_true rfl⟩) hP hD hK hS hA hev rfl rfl rfl rfl hl.1 rfl (Nat.le_of_ble_eq_true rfl) dX10_test_52 ⟨(Nat.le_of_ble_eq_true rfl), (Nat.le_of_ble_eq_true rfl)⟩ (fun r u H locs hw hP hD hS => ?_)
        obtain ⟨x22_62, rfl⟩ : ∃ z, z = u := ⟨_, rfl⟩
        have hw : (r = none) ∧ (x22_49.toInt ≤ x22_62.toInt ∧ x22_62.toInt ≤ (i 21).toInt) := hw
        obtain ⟨rfl, hw_63⟩ := hw
        have hP : va_P (dC, dI) vwCl (mw g h0 b (va_up (va_up (va_up (va_up i 22 x22_62) 23 x23_50) 24 x24_51) 25 x25_52) (va_up (va_up a 27 y27_53) 29 f_5)) _ := hP
        have hD : va_D _ (mw g h0 b (va_up (va_up (va_up (va_up i 22 x22_62) 23 x23_50) 24 x24_51) 25 x25_52) (va_up (va_up a 27 y27_53) 29 f_5)) := hD
        refine W.eq (g2 := F0 m 55 ls []) rfl ?_
        refine lv_aload_n hx hb dX10_test_55 rfl (lv_at hl 1 rfl) ?_
        refine lv_bipush (v := 60) hx hb dX10_test_56 (by decide) ?_
        refine M_V ⟨hx, hb, hml, hown, hts⟩ (m_X10_isSign l dC dI sa g h0 b (va_up (va_up (va_up (va_up i 22 x22_62) 23 x23_50) 24 x24_51) 25 x25_52) (va_up (va_up a 27 y27_53) 29 f_5) (60 : Int32) _ (show 0 ≤ x22_62.toInt ∧ x22_62.toInt ≤ (i 21).toInt ∧ (i 21).toInt ≤ 1500 from by omega)) (cwV 1 hts gX10_test_X10_isSign rfl rfl rfl (by decide +kernel) ⟨Nat.le_of_ble_eq_true rfl, Nat.le_of_ble_eq_true rfl⟩) hP hD hK hS hA hev rfl rfl rfl rfl hl.1 rfl (Nat.le_of_ble_eq_true rfl) dX10_test_58 ⟨(Nat.le_of_ble_eq_true rfl), (Nat.le_of_ble_eq_true rfl)⟩ (fun r u H locs hw hP hD hS => ?_)
        obtain ⟨x22_64, rfl⟩ : ∃ z, z = u := ⟨_, rfl⟩
        have hw : ((r = some (.int 0) ∧ (True)) ∨ (r = some (.int 1) ∧ (x22_64.toInt < (i 21).toInt))) ∧ (x22_62.toInt ≤ x22_64.toInt ∧ x22_64.toInt ≤ (i 21).toInt) := hw
        obtain ⟨⟨rfl, hz2_66⟩ | ⟨rfl, hz2_66⟩, hw_65⟩ := hw
        · have hP : va_P (dC, dI) vwCl (mw g h0 b (va_up (va_up (va_up (va_up i 22 x22_64) 23 x23_50) 24 x24_51) 25 x25_52) (va_up (va_up a 27 y27_53) 29 f_5)) _ := hP
          have hD : va_D _ (mw g h0 b (va_up (va_up (va_up (va_up i 22 x22_64) 23 x23_50) 24 x24_51) 25 x25_52) (va_up (va_up a 27 y27_53) 29 f_5)) := hD
          refine W.eq (g2 := F0 m 61 ls [.int 0]) rfl ?_
          refine lv_if_ne (tgt := 83) hx hb dX10_test_61 (by decide) (fun c_67 => absurd c_67 (by decide)) (fun _ => ?_)
          refine lv_aload_n hx hb dX10_test_64 rfl (lv_at hl 1 rfl) ?_
          refine lv_bipush (v := 61) hx hb dX10_test_65 (by decide) ?_
          refine M_V ⟨hx, hb, hml, hown, hts⟩ (m_X10_isSign l dC dI sa g h0 b (va_up (va_up (va_up (va_up i 22 x22_64) 23 x23_50) 24 x24_51) 25 x25_52) (va_up (va_up a 27 y27_53) 29 f_5) (61 : Int32) _ (show 0 ≤ x22_64.toInt ∧ x22_64.toInt ≤ (i 21).toInt ∧ (i 21).toInt ≤ 1500 from by omega)) (cwV 1 hts gX10_test_X10_isSign rfl rfl rfl (by decide +kernel) ⟨Nat.le_of_ble_eq_true rfl, Nat.le_of_ble_eq_true rfl⟩) hP hD hK hS hA hev rfl rfl rfl rfl hl.1 rfl (Nat.le_of_ble_eq_true rfl) dX10_test_67 ⟨(Nat.le_of_ble_eq_true rfl), (Nat.le_of_ble_eq_true rfl)⟩ (fun r u H locs hw hP hD hS => ?_)
          obtain ⟨x22_68, rfl⟩ : ∃ z, z = u := ⟨_, rfl⟩
          have hw : ((r = some (.int 0) ∧ (True)) ∨ (r = some (.int 1) ∧ (x22_68.toInt < (i 21).toInt))) ∧ (x22_64.toInt ≤ x22_68.toInt ∧ x22_68.toInt ≤ (i 21).toInt) := hw
          obtain ⟨⟨rfl, hz2_70⟩ | ⟨rfl, hz2_70⟩, hw_69⟩ := hw
          · have hP : va_P (dC, dI) vwCl (mw g h0 b (va_up (va_up (va_up (va_up i 22 x22_68) 23 x23_50) 24 x24_51) 25 x25_52) (va_up (va_up a 27 y27_53) 29 f_5)) _ := hP
            have hD : va_D _ (mw g h0 b (va_up (va_up (va_up (va_up i 22 x22_68) 23 x23_50) 24 x24_51) 25 x25_52) (va_up (va_up a 27 y27_53) 29 f_5)) := hD
            refine W.eq (g2 := F0 m 70 ls [.int 0]) rfl ?_
            refine lv_if_ne (tgt := 83) hx hb dX10_test_70 (by decide) (fun c_71 => absurd c_71 (by decide)) (fun _ => ?_)
            refine lv_aload_n hx hb dX10_test_73 rfl (lv_at hl 1 rfl) ?_
            refine lv_iconst (v := 1) hx hb dX10_test_74 (by decide) ?_
            refine lv_aload_n hx hb dX10_test_75 rfl (lv_at hl 1 rfl) ?_
            refine va_get (D := (dC, dI)) (ci := 10) (v := .int x22_68) (C := RX10) (T := TX10) (N := 51) hx hb hts inw_X10_test_10 hown hK hP 0 rfl rfl 22 (by decide) (hts (.fieldLink RX10 168 "VatHouseModel" "at" "I") (by decide +kernel)) (fun _ h9 => h9) rfl dX10_test_76 ?_
            refine M_V ⟨hx, hb, hml, hown, hts⟩ (m_X10_wrong l dC dI sa g h0 b (va_up (va_up (va_up (va_up i 22 x22_68) 23 x23_50) 24 x24_51) 25 x25_52) (va_up (va_up a 27 y27_53) 29 f_5) (1 : Int32) x22_68 _ (by decide) (show 0 ≤ x23_50.toInt from by omega)) (cwV 2 hts gX10_test_X10_wrong rfl rfl rfl (by decide +kernel) ⟨Nat.le_of_ble_eq_true rfl, Nat.le_of_ble_eq_true rfl⟩) hP hD hK hS hA hev rfl rfl rfl rfl hl.1 rfl (Nat.le_of_ble_eq_true rfl) dX10_test_79 ⟨(Nat.le_of_ble_eq_true rfl), (Nat.le_of_ble_eq_true rfl)⟩ (fun r u H locs hw hP hD hS => ?_)
            obtain ⟨x23_72, x24_73⟩ := u
            have hw : ((r = some (.int 0) ∧ (0 < x23_72.toInt)) ∨ (r = some (.int 1) ∧ (False))) ∧ (True) := hw
            obtain ⟨⟨rfl, hz2_75⟩ | ⟨rfl, hz2_75⟩, hw_74⟩ := hw
            · have hP : va_P (dC, dI) vwCl (mw g h0 b (va_up (va_up (va_up (va_up i 22 x22_68) 23 x23_72) 24 x24_73) 25 x25_52) (va_up (va_up a 27 y27_53) 29 f_5)) _ := hP
              have hD : va_D _ (mw g h0 b (va_up (va_up (va_up (va_up i 22 x22_68) 23 x23_72) 24 x24_73) 25 x25_52) (va_up (va_up a 27 y27_53) 29 f_5)) := hD
              refine W.eq (g2 := F0 m 82 ls [.int 0]) rfl ?_
              exact M_z hx hb hr rfl hlocks (x22_68, x23_72, x24_73, x25_52, y27_53, (a 28), f_5, (a 30)) hP hD hK hS ⟨Or.inl ⟨rfl, by omega⟩, ⟨⟨⟨by omega, by omega⟩, by omega, fun h9 => by omega⟩, hset_59⟩⟩ (Nat.le_of_ble_eq_true rfl) (Nat.le_of_ble_eq_true rfl) dX10_test_82
            · have hP : va_P (dC, dI) vwCl (mw g h0 b (va_up (va_up (va_up (va_up i 22 x22_68) 23 x23_72) 24 x24_73) 25 x25_52) (va_up (va_up a 27 y27_53) 29 f_5)) _ := hP
              have hD : va_D _ (mw g h0 b (va_up (va_up (va_up (va_up i 22 x22_68) 23 x23_72) 24 x24_73) 25 x25_52) (va_up (va_up a 27 y27_53) 29 f_5)) := hD
              refine W.eq (g2 := F0 m 82 ls [.int 1]) rfl ?_
              exact hz2_75.elim
          · have hP : va_P (dC, dI) vwCl (mw g h0 b (va_up (va_up (va_up (va_up i 22 x22_68) 23 x23_50) 24 x24_51) 25 x25_52) (va_up (va_up a 27 y27_53) 29 f_5)) _ := hP
            have hD : va_D _ (mw g h0 b (va_up (va_up (va_up (va_up i 22 x22_68) 23 x23_50) 24 x24_51) 25 x25_52) (va_up (va_up a 27 y27_53) 29 f_5)) := hD
            refine W.eq (g2 := F0 m 70 ls [.int 1]) rfl ?_
            refine lv_if_ne (tgt := 83) hx hb dX10_test_70 (by decide) (fun _ => ?_) (fun c_76 => absurd c_76 (by decide))
            refine lv_aload_n hx hb dX10_test_83 rfl (lv_at hl 1 rfl) ?_
            refine va_get (D := (dC, dI)) (ci := 10) (v := .ref (b 30)) (C := RX10) (T := TX10) (N := 51) hx hb hts inw_X10_test_10 hown hK hP 0 rfl rfl 30 (by decide) (hts (.fieldLink RX10 72 "VatHouseModel" "sign" "[I") (by decide +kernel)) (fun _ h9 => h9) rfl dX10_test_84 ?_
            refine lv_iload_n hx hb dX10_test_87 rfl (lv_at hl 2 rfl) ?_
            refine lv_aload_n hx hb dX10_test_88 rfl (lv_at hl 1 rfl) ?_
            refine va_get (D := (dC, dI)) (ci := 10) (v := .ref (b 19)) (C := RX10) (T := TX10) (N := 51) hx hb hts inw_X10_test_10 hown hK hP 0 rfl rfl 19 (by decide) (hts (.fieldLink RX10 53 "VatHouseModel" "tape" "[I") (by decide +kernel)) (fun _ h9 => h9) rfl dX10_test_89 ?_
            refine lv_aload_n hx hb dX10_test_92 rfl (lv_at hl 1 rfl) ?_
            refine va_get (D := (dC, dI)) (ci := 10) (v := .int x22_68) (C := RX10) (T := TX10) (N := 51) hx hb hts inw_X10_test_10 hown hK hP 0 rfl rfl 22 (by decide) (hts (.fieldLink RX10 168 "VatHouseModel" "at" "I") (by decide +kernel)) (fun _ h9 => h9) rfl dX10_test_93 ?_
            refine va_iald hx hb hK hP 15 14 rfl rfl (in_i (by omega) (by omega)) dX10_test_96 ?_
            refine lv_topi (fun z_77 ez_77 => ?_)
            have ez_77 : z_77 = (a 19) x22_68.toNatClampNeg := ez_77
            refine va_iast hx hb hK hP hD hS 20 19 rfl rfl (by assumption) dX10_test_97 (fun H locs hP hD hS => ?_)
            have hP : va_P (dC, dI) vwCl (mw g h0 b (va_up (va_up (va_up (va_up i 22 x22_68) 23 x23_50) 24 x24_51) 25 x25_52) (va_up (va_up (va_up a 27 y27_53) 29 f_5) 30 (upd (a 30) kk.toNatClampNeg z_77))) _ := hP
            have hD : va_D _ (mw g h0 b (va_up (va_up (va_up (va_up i 22 x22_68) 23 x23_50) 24 x24_51) 25 x25_52) (va_up (va_up (va_up a 27 y27_53) 29 f_5) 30 (upd (a 30) kk.toNatClampNeg z_77))) := hD
            obtain ⟨f_78, ef_78⟩ : ∃ z, z = (upd (a 30) kk.toNatClampNeg z_77) := ⟨_, rfl⟩
            rw [← ef_78] at hP hD
            refine lv_aload_n hx hb dX10_test_98 rfl (lv_at hl 1 rfl) ?_
            refine lv_dup hx hb dX10_test_99 rfl ?_
            refine va_get (D := (dC, dI)) (ci := 10) (v := .int x22_68) (C := RX10) (T := TX10) (N := 51) hx hb hts inw_X10_test_10 hown hK hP 0 rfl rfl 22 (by decide) (hts (.fieldLink RX10 168 "VatHouseModel" "at" "I") (by decide +kernel)) (fun _ h9 => h9) rfl dX10_test_100 ?_
            refine lv_iconst (v := 1) hx hb dX10_test_103 (by decide) ?_
            refine lv_iadd hx hb dX10_test_104 ?_
            refine lv_topi (fun z_79 ez_79 => ?_)
            have tz9 := incz (y := i 21) (by rw [Int32.le_iff_toInt_le]; omega) ez_79
            refine va_put (D := (dC, dI)) (ci := 10) (v := .int z_79) (ty := .int) (C := RX10) (T := TX10) (N := 51) hx hb hts inw_X10_test_10 tyX10 tyX10_ok nmX10 hown hK hP hD hS 0 rfl rfl 22 (by decide) (hts (.fieldLink RX10 168 "VatHouseModel" "at" "I") (by decide +kernel)) (fun _ h9 => h9) rfl (by decide +kernel) rfl rfl (Nat.le_of_ble_eq_true rfl) dX10_test_105 (fun H locs hP hD hS => ?_)
            have hP : va_P (dC, dI) vwCl (mw g h0 b (va_up (va_up (va_up (va_up i 22 z_79) 23 x23_50) 24 x24_51) 25 x25_52) (va_up (va_up (va_up a 27 y27_53) 29 f_5) 30 f_78)) _ := hP
            have hD : va_D _ (mw g h0 b (va_up (va_up (va_up (va_up i 22 z_79) 23 x23_50) 24 x24_51) 25 x25_52) (va_up (va_up (va_up a 27 y27_53) 29 f_5) 30 f_78)) := hD
            refine lv_aload_n hx hb dX10_test_108 rfl (lv_at hl 1 rfl) ?_
            refine lv_iconst (v := 0) hx hb dX10_test_109 (by decide) ?_
            refine lv_sipush (v := 9999) hx hb dX10_test_110 (by decide) ?_
            refine M_V ⟨hx, hb, hml, hown, hts⟩ (m_X10_number l dC dI sa g h0 b (va_up (va_up (va_up (va_up i 22 z_79) 23 x23_50) 24 x24_51) 25 x25_52) (va_up (va_up (va_up a 27 y27_53) 29 f_5) 30 f_78) (0 : Int32) (9999 : Int32) _ (show 0 ≤ z_79.toInt ∧ z_79.toInt ≤ (i 21).toInt ∧ (i 21).toInt ≤ 1500 from by omega) (show 0 ≤ x23_50.toInt from by omega)) (cwV 2 hts gX10_test_X10_number rfl rfl rfl (by decide +kernel) ⟨Nat.le_of_ble_eq_true rfl, Nat.le_of_ble_eq_true rfl⟩) hP hD hK hS hA hev rfl rfl rfl rfl hl.1 rfl (Nat.le_of_ble_eq_true rfl) dX10_test_113 ⟨(Nat.le_of_ble_eq_true rfl), (Nat.le_of_ble_eq_true rfl)⟩ (fun r u H locs hw hP hD hS => ?_)
            obtain ⟨x22_80, x23_81, x24_82, x25_83⟩ := u
            have hw : ((r = some (.int 0) ∧ (0 < x23_81.toInt)) ∨ (r = some (.int 1) ∧ ((0 : Int32).toInt ≤ x25_83.toInt ∧ x25_83.toInt ≤ (9999 : Int32).toInt))) ∧ ((z_79.toInt ≤ x22_80.toInt ∧ x22_80.toInt ≤ (i 21).toInt) ∧ 0 ≤ x23_81.toInt ∧ (0 < x23_50.toInt → 0 < x23_81.toInt)) := hw
            obtain ⟨⟨rfl, hz2_85⟩ | ⟨rfl, hz2_85⟩, hw_84⟩ := hw
            · have hP : va_P (dC, dI) vwCl (mw g h0 b (va_up (va_up (va_up (va_up i 22 x22_80) 23 x23_81) 24 x24_82) 25 x25_83) (va_up (va_up (va_up a 27 y27_53) 29 f_5) 30 f_78)) _ := hP
              have hD : va_D _ (mw g h0 b (va_up (va_up (va_up (va_up i 22 x22_80) 23 x23_81) 24 x24_82) 25 x25_83) (va_up (va_up (va_up a 27 y27_53) 29 f_5) 30 f_78)) := hD
              refine W.eq (g2 := F0 m 116 ls [.int 0]) rfl ?_
              refine lv_if_ne (tgt := 121) hx hb dX10_test_116 (by decide) (fun c_86 => absurd c_86 (by decide)) (fun _ => ?_)
              refine lv_iconst (v := 0) hx hb dX10_test_119 (by decide) ?_
              exact M_z hx hb hr rfl hlocks (x22_80, x23_81, x24_82, x25_83, y27_53, (a 28), f_5, f_78) hP hD hK hS ⟨Or.inl ⟨rfl, by omega⟩, ⟨⟨⟨by omega, by omega⟩, by omega, fun h9 => by omega⟩, hset_59⟩⟩ (Nat.le_of_ble_eq_true rfl) (Nat.le_of_ble_eq_true rfl) dX10_test_120
            · have hP : va_P (dC, dI) vwCl (mw g h0 b (va_up (va_up (va_up (va_up i 22 x22_80) 23 x23_81) 24 x24_82) 25 x25_83) (va_up (va_up (va_up a 27 y27_53) 29 f_5) 30 f_78)) _ := hP
              have hD : va_D _ (mw g h0 b (va_up (va_up (va_up (va_up i 22 x22_80) 23 x23_81) 24 x24_82) 25 x25_83) (va_up (va_up (va_up a 27 y27_53) 29 f_5) 30 f_78)) := hD
              refine W.eq (g2 := F0 m 116 ls [.int 1]) rfl ?_
              refine lv_if_ne (tgt := 121) hx hb dX10_test_116 (by decide) (fun _ => ?_) (fun c_87 => absurd c_87 (by decide))
              refine lv_aload_n hx hb dX10_test_121 rfl (lv_at hl 1 rfl) ?_
              refine va_get (D := (dC, dI)) (ci := 10) (v := .ref (b 28)) (C := RX10) (T := TX10) (N := 51) hx hb hts inw_X10_test_10 hown hK hP 0 rfl rfl 28 (by decide) (hts (.fieldLink RX10 66 "VatHouseModel" "two" "[I") (by decide +kernel)) (fun _ h9 => h9) rfl dX10_test_122 ?_
              refine lv_iload_n hx hb dX10_test_125 rfl (lv_at hl 2 rfl) ?_
              refine lv_aload_n hx hb dX10_test_126 rfl (lv_at hl 1 rfl) ?_
              refine va_get (D := (dC, dI)) (ci := 10) (v := .int x25_83) (C := RX10) (T := TX10) (N := 51) hx hb hts inw_X10_test_10 hown hK hP 0 rfl rfl 25 (by decide) (hts (.fieldLink RX10 243 "VatHouseModel" "value" "I") (by decide +kernel)) (fun _ h9 => h9) rfl dX10_test_127 ?_
              refine va_iast hx hb hK hP hD hS 18 17 rfl rfl (by assumption) dX10_test_130 (fun H locs hP hD hS => ?_)
              have hP : va_P (dC, dI) vwCl (mw g h0 b (va_up (va_up (va_up (va_up i 22 x22_80) 23 x23_81) 24 x24_82) 25 x25_83) (va_up (va_up (va_up (va_up a 27 y27_53) 28 (upd (a 28) kk.toNatClampNeg x25_83)) 29 f_5) 30 f_78)) _ := hP
              have hD : va_D _ (mw g h0 b (va_up (va_up (va_up (va_up i 22 x22_80) 23 x23_81) 24 x24_82) 25 x25_83) (va_up (va_up (va_up (va_up a 27 y27_53) 28 (upd (a 28) kk.toNatClampNeg x25_83)) 29 f_5) 30 f_78)) := hD
              obtain ⟨f_88, ef_88⟩ : ∃ z, z = (upd (a 28) kk.toNatClampNeg x25_83) := ⟨_, rfl⟩
              rw [← ef_88] at hP hD
              refine lv_iconst (v := 1) hx hb dX10_test_131 (by decide) ?_
              exact M_z hx hb hr rfl hlocks (x22_80, x23_81, x24_82, x25_83, y27_53, f_88, f_5, f_78) hP hD hK hS ⟨Or.inr ⟨rfl, trivial⟩, ⟨⟨⟨by omega, by omega⟩, by omega, fun h9 => by omega⟩, hset_59⟩⟩ (Nat.le_of_ble_eq_true rfl) (Nat.le_of_ble_eq_true rfl) dX10_test_132
        · have hP : va_P (dC, dI) vwCl (mw g h0 b (va_up (va_up (va_up (va_up i 22 x22_64) 23 x23_50) 24 x24_51) 25 x25_52) (va_up (va_up a 27 y27_53) 29 f_5)) _ := hP
          have hD : va_D _ (mw g h0 b (va_up (va_up (va_up (va_up i 22 x22_64) 23 x23_50) 24 x24_51) 25 x25_52) (va_up (va_up a 27 y27_53) 29 f_5)) := hD
          refine W.eq (g2 := F0 m 61 ls [.int 1]) rfl ?_
          refine lv_if_ne (tgt := 83) hx hb dX10_test_61 (by decide) (fun _ => ?_) (fun c_89 => absurd c_89 (by decide))
          refine lv_aload_n hx hb dX10_test_83 rfl (lv_at hl 1 rfl) ?_
          refine va_get (D := (dC, dI)) (ci := 10) (v := .ref (b 30)) (C := RX10) (T := TX10) (N := 51) hx hb hts inw_X10_test_10 hown hK hP 0 rfl rfl 30 (by decide) (hts (.fieldLink RX10 72 "VatHouseModel" "sign" "[I") (by decide +kernel)) (fun _ h9 => h9) rfl dX10_test_84 ?_
          refine lv_iload_n hx hb dX10_test_87 rfl (lv_at hl 2 rfl) ?_
          refine lv_aload_n hx hb dX10_test_88 rfl (lv_at hl 1 rfl) ?_
          refine va_get (D := (dC, dI)) (ci := 10) (v := .ref (b 19)) (C := RX10) (T := TX10) (N := 51) hx hb hts inw_X10_test_10 hown hK hP 0 rfl rfl 19 (by decide) (hts (.fieldLink RX10 53 "VatHouseModel" "tape" "[I") (by decide +kernel)) (fun _ h9 => h9) rfl dX10_test_89 ?_
          refine lv_aload_n hx hb dX10_test_92 rfl (lv_at hl 1 rfl) ?_
          refine va_get (D := (dC, dI)) (ci := 10) (v := .int x22_64) (C := RX10) (T := TX10) (N := 51) hx hb hts inw_X10_test_10 hown hK hP 0 rfl rfl 22 (by decide) (hts (.fieldLink RX10 168 "VatHouseModel" "at" "I") (by decide +kernel)) (fun _ h9 => h9) rfl dX10_test_93 ?_
          refine va_iald hx hb hK hP 15 14 rfl rfl (in_i (by omega) (by omega)) dX10_test_96 ?_
          refine lv_topi (fun z_90 ez_90 => ?_)
          have ez_90 : z_90 = (a 19) x22_64.toNatClampNeg := ez_90
          refine va_iast hx hb hK hP hD hS 20 19 rfl rfl (by assumption) dX10_test_97 (fun H locs hP hD hS => ?_)
          have hP : va_P (dC, dI) vwCl (mw g h0 b (va_up (va_up (va_up (va_up i 22 x22_64) 23 x23_50) 24 x24_51) 25 x25_52) (va_up (va_up (va_up a 27 y27_53) 29 f_5) 30 (upd (a 30) kk.toNatClampNeg z_90))) _ := hP
          have hD : va_D _ (mw g h0 b (va_up (va_up (va_up (va_up i 22 x22_64) 23 x23_50) 24 x24_51) 25 x25_52) (va_up (va_up (va_up a 27 y27_53) 29 f_5) 30 (upd (a 30) kk.toNatClampNeg z_90))) := hD
          obtain ⟨f_91, ef_91⟩ : ∃ z, z = (upd (a 30) kk.toNatClampNeg z_90) := ⟨_, rfl⟩
          rw [← ef_91] at hP hD
          refine lv_aload_n hx hb dX10_test_98 rfl (lv_at hl 1 rfl) ?_
          refine lv_dup hx hb dX10_test_99 rfl ?_
          refine va_get (D := (dC, dI)) (ci := 10) (v := .int x22_64) (C := RX10) (T := TX10) (N := 51) hx hb hts inw_X10_test_10 hown hK hP 0 rfl rfl 22 (by decide) (hts (.fieldLink RX10 168 "VatHouseModel" "at" "I") (by decide +kernel)) (fun _ h9 => h9) rfl dX10_test_100 ?_
          refine lv_iconst (v := 1) hx hb dX10_test_103 (by decide) ?_
          refine lv_iadd hx hb dX10_test_104 ?_
          refine lv_topi (fun z_92 ez_92 => ?_)
          have tz9 := incz (y := i 21) (by rw [Int32.le_iff_toInt_le]; omega) ez_92
          refine va_put (D := (dC, dI)) (ci := 10) (v := .int z_92) (ty := .int) (C := RX10) (T := TX10) (N := 51) hx hb hts inw_X10_test_10 tyX10 tyX10_ok nmX10 hown hK hP hD hS 0 rfl rfl 22 (by decide) (hts (.fieldLink RX10 168 "VatHouseModel" "at" "I") (by decide +kernel)) (fun _ h9 => h9) rfl (by decide +kernel) rfl rfl (Nat.le_of_ble_eq_true rfl) dX10_test_105 (fun H locs hP hD hS => ?_)
          have hP : va_P (dC, dI) vwCl (mw g h0 b (va_up (va_up (va_up (va_up i 22 z_92) 23 x23_50) 24 x24_51) 25 x25_52) (va_up (va_up (va_up a 27 y27_53) 29 f_5) 30 f_91)) _ := hP
          have hD : va_D _ (mw g h0 b (va_up (va_up (va_up (va_up i 22 z_92) 23 x23_50) 24 x24_51) 25 x25_52) (va_up (va_up (va_up a 27 y27_53) 29 f_5) 30 f_91)) := hD
          refine lv_aload_n hx hb dX10_test_108 rfl (lv_at hl 1 rfl) ?_
          refine lv_iconst (v := 0) hx hb dX10_test_109 (by decide) ?_
          refine lv_sipush (v := 9999) hx hb dX10_test_110 (by decide) ?_
          refine M_V ⟨hx, hb, hml, hown, hts⟩ (m_X10_number l dC dI sa g h0 b (va_up (va_up (va_up (va_up i 22 z_92) 23 x23_50) 24 x24_51) 25 x25_52) (va_up (va_up (va_up a 27 y27_53) 29 f_5) 30 f_91) (0 : Int32) (9999 : Int32) _ (show 0 ≤ z_92.toInt ∧ z_92.toInt ≤ (i 21).toInt ∧ (i 21).toInt ≤ 1500 from by omega) (show 0 ≤ x23_50.toInt from by omega)) (cwV 2 hts gX10_test_X10_number rfl rfl rfl (by decide +kernel) ⟨Nat.le_of_ble_eq_true rfl, Nat.le_of_ble_eq_true rfl⟩) hP hD hK hS hA hev rfl rfl rfl rfl hl.1 rfl (Nat.le_of_ble_eq_true rfl) dX10_test_113 ⟨(Nat.le_of_ble_eq_true rfl), (Nat.le_of_ble_eq_true rfl)⟩ (fun r u H locs hw hP hD hS => ?_)
          obtain ⟨x22_93, x23_94, x24_95, x25_96⟩ := u
          have hw : ((r = some (.int 0) ∧ (0 < x23_94.toInt)) ∨ (r = some (.int 1) ∧ ((0 : Int32).toInt ≤ x25_96.toInt ∧ x25_96.toInt ≤ (9999 : Int32).toInt))) ∧ ((z_92.toInt ≤ x22_93.toInt ∧ x22_93.toInt ≤ (i 21).toInt) ∧ 0 ≤ x23_94.toInt ∧ (0 < x23_50.toInt → 0 < x23_94.toInt)) := hw
          obtain ⟨⟨rfl, hz2_98⟩ | ⟨rfl, hz2_98⟩, hw_97⟩ := hw
          · have hP : va_P (dC, dI) vwCl (mw g h0 b (va_up (va_up (va_up (va_up i 22 x22_93) 23 x23_94) 24 x24_95) 25 x25_96) (va_up (va_up (va_up a 27 y27_53) 29 f_5) 30 f_91)) _ := hP
            have hD : va_D _ (mw g h0 b (va_up (va_up (va_up (va_up i 22 x22_93) 23 x23_94) 24 x24_95) 25 x25_96) (va_up (va_up (va_up a 27 y27_53) 29 f_5) 30 f_91)) := hD
            refine W.eq (g2 := F0 m 116 ls [.int 0]) rfl ?_
            refine lv_if_ne (tgt := 121) hx hb dX10_test_116 (by decide) (fun c_99 => absurd c_99 (by decide)) (fun _ => ?_)
            refine lv_iconst (v := 0) hx hb dX10_test_119 (by decide) ?_
            exact M_z hx hb hr rfl hlocks (x22_93, x23_94, x24_95, x25_96, y27_53, (a 28), f_5, f_91) hP hD hK hS ⟨Or.inl ⟨rfl, by omega⟩, ⟨⟨⟨by omega, by omega⟩, by omega, fun h9 => by omega⟩, hset_59⟩⟩ (Nat.le_of_ble_eq_true rfl) (Nat.le_of_ble_eq_true rfl) dX10_test_120
          · have hP : va_P (dC, dI) vwCl (mw g h0 b (va_up (va_up (va_up (va_up i 22 x22_93) 23 x23_94) 24 x24_95) 25 x25_96) (va_up (va_up (va_up a 27 y27_53) 29 f_5) 30 f_91)) _ := hP
            have hD : va_D _ (mw g h0 b (va_up (va_up (va_up (va_up i 22 x22_93) 23 x23_94) 24 x24_95) 25 x25_96) (va_up (va_up (va_up a 27 y27_53) 29 f_5) 30 f_91)) := hD
            refine W.eq (g2 := F0 m 116 ls [.int 1]) rfl ?_
            refine lv_if_ne (tgt := 121) hx hb dX10_test_116 (by decide) (fun _ => ?_) (fun c_100 => absurd c_100 (by decide))
            refine lv_aload_n hx hb dX10_test_121 rfl (lv_at hl 1 rfl) ?_
            refine va_get (D := (dC, dI)) (ci := 10) (v := .ref (b 28)) (C := RX10) (T := TX10) (N := 51) hx hb hts inw_X10_test_10 hown hK hP 0 rfl rfl 28 (by decide) (hts (.fieldLink RX10 66 "VatHouseModel" "two" "[I") (by decide +kernel)) (fun _ h9 => h9) rfl dX10_test_122 ?_
            refine lv_iload_n hx hb dX10_test_125 rfl (lv_at hl 2 rfl) ?_
            refine lv_aload_n hx hb dX10_test_126 rfl (lv_at hl 1 rfl) ?_
            refine va_get (D := (dC, dI)) (ci := 10) (v := .int x25_96) (C := RX10) (T := TX10) (N := 51) hx hb hts inw_X10_test_10 hown hK hP 0 rfl rfl 25 (by decide) (hts (.fieldLink RX10 243 "VatHouseModel" "value" "I") (by decide +kernel)) (fun _ h9 => h9) rfl dX10_test_127 ?_
            refine va_iast hx hb hK hP hD hS 18 17 rfl rfl (by assumption) dX10_test_130 (fun H locs hP hD hS => ?_)
            have hP : va_P (dC, dI) vwCl (mw g h0 b (va_up (va_up (va_up (va_up i 22 x22_93) 23 x23_94) 24 x24_95) 25 x25_96) (va_up (va_up (va_up (va_up a 27 y27_53) 28 (upd (a 28) kk.toNatClampNeg x25_96)) 29 f_5) 30 f_91)) _ := hP
            have hD : va_D _ (mw g h0 b (va_up (va_up (va_up (va_up i 22 x22_93) 23 x23_94) 24 x24_95) 25 x25_96) (va_up (va_up (va_up (va_up a 27 y27_53) 28 (upd (a 28) kk.toNatClampNeg x25_96)) 29 f_5) 30 f_91)) := hD
            obtain ⟨f_101, ef_101⟩ : ∃ z, z = (upd (a 28) kk.toNatClampNeg x25_96) := ⟨_, rfl⟩
            rw [← ef_101] at hP hD
            refine lv_iconst (v := 1) hx hb dX10_test_131 (by decide) ?_
            exact M_z hx hb hr rfl hlocks (x22_93, x23_94, x24_95, x25_96, y27_53, f_101, f_5, f_91) hP hD hK hS ⟨Or.inr ⟨rfl, trivial⟩, ⟨⟨⟨by omega, by omega⟩, by omega, fun h9 => by omega⟩, hset_59⟩⟩ (Nat.le_of_ble_eq_true rfl) (Nat.le_of_ble_eq_true rfl) dX10_test_132
  · have nc_4 := nle_i c_4
    have lc_4 : (14 : Int32).toInt = 14 := by decide
    refine lv_aload_n hx hb dX10_test_11 rfl (lv_at hl 1 rfl) ?_
    refine lv_iconst (v := 1) hx hb dX10_test_12 (by decide) ?_
    refine lv_aload_n hx hb dX10_test_13 rfl (lv_at hl 1 rfl) ?_
    refine va_get (D := (dC, dI)) (ci := 10) (v := .int x22_1) (C := RX10) (T := TX10) (N := 51) hx hb hts inw_X10_test_10 hown hK hP 0 rfl rfl 22 (by decide) (hts (.fieldLink RX10 168 "VatHouseModel" "at" "I") (by decide +kernel)) (fun _ h9 => h9) rfl dX10_test_14 ?_
    refine M_V ⟨hx, hb, hml, hown, hts⟩ (m_X10_wrong l dC dI sa g h0 b (va_up i 22 x22_1) a (1 : Int32) x22_1 _ (by decide) (show 0 ≤ (i 23).toInt from by omega)) (cwV 2 hts gX10_test_X10_wrong rfl rfl rfl (by decide +kernel) ⟨Nat.le_of_ble_eq_true rfl, Nat.le_of_ble_eq_true rfl⟩) hP hD hK hS hA hev rfl rfl rfl rfl hl.1 rfl (Nat.le_of_ble_eq_true rfl) dX10_test_17 ⟨(Nat.le_of_ble_eq_true rfl), (Nat.le_of_ble_eq_true rfl)⟩ (fun r u H locs hw hP hD hS => ?_)
    obtain ⟨x23_102, x24_103⟩ := u
    have hw : ((r = some (.int 0) ∧ (0 < x23_102.toInt)) ∨ (r = some (.int 1) ∧ (False))) ∧ (True) := hw
    obtain ⟨⟨rfl, hz2_105⟩ | ⟨rfl, hz2_105⟩, hw_104⟩ := hw
    · have hP : va_P (dC, dI) vwCl (mw g h0 b (va_up (va_up (va_up i 22 x22_1) 23 x23_102) 24 x24_103) a) _ := hP
      have hD : va_D _ (mw g h0 b (va_up (va_up (va_up i 22 x22_1) 23 x23_102) 24 x24_103) a) := hD
      refine W.eq (g2 := F0 m 20 ls [.int 0]) rfl ?_
      exact M_z hx hb hr rfl hlocks (x22_1, x23_102, x24_103, (i 25), (a 27), (a 28), (a 29), (a 30)) hP hD hK hS ⟨Or.inl ⟨rfl, by omega⟩, ⟨⟨⟨by omega, by omega⟩, by omega, fun h9 => by omega⟩, Or.inl rfl⟩⟩ (Nat.le_of_ble_eq_true rfl) (Nat.le_of_ble_eq_true rfl) dX10_test_20
    · have hP : va_P (dC, dI) vwCl (mw g h0 b (va_up (va_up (va_up i 22 x22_1) 23 x23_102) 24 x24_103) a) _ := hP
      have hD : va_D _ (mw g h0 b (va_up (va_up (va_up i 22 x22_1) 23 x23_102) 24 x24_103) a) := hD
      refine W.eq (g2 := F0 m 20 ls [.int 1]) rfl ?_
      exact hz2_105.elim
