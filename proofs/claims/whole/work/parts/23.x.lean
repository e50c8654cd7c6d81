/-! the reader of the model: nodes come, links are set -/
noncomputable def PV (n : Int32) (k : Nat) : Prop := 2400 ≤ k ∧ (k : Int) < 2400 + n.toInt
noncomputable def PN (n : Int32) (dp : Nat → Nat) (kd on inr oth nx : Nat → Int32) : Prop := 0 ≤ n.toInt ∧ n.toInt ≤ 300 ∧ ND (PV n) dp kd on inr oth nx
noncomputable def LF (kd on inr oth nx kd' on' inr' oth' nx' : Nat → Int32) : Prop := ∀ k : Nat, k < 2400 → kd' k = kd k ∧ on' k = on k ∧ inr' k = inr k ∧ oth' k = oth k ∧ nx' k = nx k
noncomputable def AG (n : Int32) (dp dp' : Nat → Nat) : Prop := ∀ k : Nat, (k : Int) < 2400 + n.toInt → dp' k = dp k
noncomputable def PR (n n' : Int32) (dp dp' : Nat → Nat) (kd on inr oth nx kd' on' inr' oth' nx' : Nat → Int32) : Prop := AG n dp dp' ∧ PN n' dp' kd' on' inr' oth' nx' ∧ LF kd on inr oth nx kd' on' inr' oth' nx' ∧ n.toInt ≤ n'.toInt
section PRS
variable {n n' n'' : Int32} {dp dp' dp'' : Nat → Nat} {kd on inr oth nx kd' on' inr' oth' nx' kd'' on'' inr'' oth'' nx'' : Nat → Int32}
theorem PR.rf (h : PN n dp kd on inr oth nx) : PR n n dp dp kd on inr oth nx kd on inr oth nx := ⟨fun _ _ => rfl, h, fun _ _ => ⟨rfl, rfl, rfl, rfl, rfl⟩, Int.le_refl _⟩
theorem PR.tr (h : PR n n' dp dp' kd on inr oth nx kd' on' inr' oth' nx') (h' : PR n' n'' dp' dp'' kd' on' inr' oth' nx' kd'' on'' inr'' oth'' nx'') : PR n n'' dp dp'' kd on inr oth nx kd'' on'' inr'' oth'' nx'' := by
  refine ⟨fun k hk => (h'.1 k (by have := h.2.2.2; omega)).trans (h.1 k hk), h'.2.1, fun k hk => ?_, Int.le_trans h.2.2.2 h'.2.2.2⟩
  obtain ⟨a1, a2, a3, a4, a5⟩ := h.2.2.1 k hk
  obtain ⟨b1, b2, b3, b4, b5⟩ := h'.2.2.1 k hk
  exact ⟨b1.trans a1, b2.trans a2, b3.trans a3, b4.trans a4, b5.trans a5⟩
theorem PR.nd (h : PR n n' dp dp' kd on inr oth nx kd' on' inr' oth' nx') {q d : Nat} (hV : PV n q) (hd : dp q = d) : PV n' q ∧ dp' q = d := ⟨⟨hV.1, by have := hV.2; have := h.2.2.2; omega⟩, (h.1 q hV.2).trans hd⟩
theorem PR.lk (h : PR n n' dp dp' kd on inr oth nx kd' on' inr' oth' nx') {d : Nat} {x : Int32} (hx : lk (PV n) dp d x) : lk (PV n') dp' d x := by
  rcases hx with hx | ⟨q, h1, h2, h3⟩
  · exact Or.inl hx
  · exact Or.inr ⟨q, h1, h.nd h2 h3⟩
theorem up_hi {f : Nat → Int32} {x v : Int32} {q k : Nat} (hq : x = nI q) (hV : PV n q) (hn : n.toInt ≤ 300) (hk : k < 2400) : upd f x.toNatClampNeg v k = f k := by
  have h1 := hV.1
  have h2 := hV.2
  rw [hq, nI_clamp (by omega)]
  exact if_neg (by omega)
/-- a number of a node -/
theorem PN.set (h : PN n dp kd on inr oth nx) {q : Nat} {x lo hi : Int32} {y : Nat → Int32} (hq : x = nI q) (hV : PV n q) (hy : y = on ∨ ∃ v : Int32, lo.toInt ≤ v.toInt ∧ v.toInt ≤ hi.toInt ∧ y = upd on x.toNatClampNeg v) (hc : kd q = 0 ∨ kd q = 4 ∨ kd q = 5 ∨ kd q = 9 → 0 ≤ lo.toInt ∧ hi.toInt ≤ 5) : PR n n dp dp kd on inr oth nx kd y inr oth nx := by
  rcases hy with rfl | ⟨v, h1, h2, rfl⟩
  · exact PR.rf h
  refine ⟨fun _ _ => rfl, ⟨h.1, h.2.1, fun k hk => ?_⟩, fun k hk => ⟨rfl, up_hi hq hV h.2.1 hk, rfl, rfl, rfl⟩, Int.le_refl _⟩
  obtain ⟨g1, g2, g3, g4⟩ := h.2.2 k hk
  refine ⟨g1, g2, fun hc2 => ?_, g4⟩
  have hqc : x.toNatClampNeg = q := by rw [hq]; exact nI_clamp (by have := (h.2.2 q hV).1; omega)
  by_cases e : k = q
  · subst e
    have h3 := hc hc2
    have e2 : upd on x.toNatClampNeg v k = v := by rw [hqc]; exact if_pos rfl
    rw [e2]
    omega
  · have e2 : upd on x.toNatClampNeg v k = on k := by rw [hqc]; exact if_neg e
    rw [e2]
    exact g3 hc2
theorem up_at {f : Nat → Int32} {x v : Int32} {q : Nat} (hqc : x.toNatClampNeg = q) (k : Nat) : upd f x.toNatClampNeg v k = if k = q then v else f k := by
  rw [hqc]; rfl
theorem PN.inner (h : PN n dp kd on inr oth nx) {q : Nat} {x v : Int32} (hq : x = nI q) (hV : PV n q) (hv : lk (PV n) dp (dp q + 1) v) : PR n n dp dp kd on inr oth nx kd on (upd inr x.toNatClampNeg v) oth nx := by
  have hqc : x.toNatClampNeg = q := by rw [hq]; exact nI_clamp (by have := (h.2.2 q hV).1; omega)
  refine ⟨fun _ _ => rfl, ⟨h.1, h.2.1, fun k hk => ?_⟩, fun k hk => ⟨rfl, rfl, up_hi hq hV h.2.1 hk, rfl, rfl⟩, Int.le_refl _⟩
  obtain ⟨g1, g2, g3, g4, g5⟩ := h.2.2 k hk
  refine ⟨g1, g2, g3, ?_, g5⟩
  rw [up_at hqc]
  by_cases e : k = q
  · subst e; rw [if_pos rfl]; exact hv
  · rw [if_neg e]; exact g4
theorem PN.other (h : PN n dp kd on inr oth nx) {q : Nat} {x v : Int32} (hq : x = nI q) (hV : PV n q) (hv : lk (PV n) dp (dp q + 1) v) : PR n n dp dp kd on inr oth nx kd on inr (upd oth x.toNatClampNeg v) nx := by
  have hqc : x.toNatClampNeg = q := by rw [hq]; exact nI_clamp (by have := (h.2.2 q hV).1; omega)
  refine ⟨fun _ _ => rfl, ⟨h.1, h.2.1, fun k hk => ?_⟩, fun k hk => ⟨rfl, rfl, rfl, up_hi hq hV h.2.1 hk, rfl⟩, Int.le_refl _⟩
  obtain ⟨g1, g2, g3, g4, g5, g6⟩ := h.2.2 k hk
  refine ⟨g1, g2, g3, g4, ?_, g6⟩
  rw [up_at hqc]
  by_cases e : k = q
  · subst e; rw [if_pos rfl]; exact hv
  · rw [if_neg e]; exact g5
theorem PN.next (h : PN n dp kd on inr oth nx) {q : Nat} {x v : Int32} (hq : x = nI q) (hV : PV n q) (hv : lk (PV n) dp (dp q) v) : PR n n dp dp kd on inr oth nx kd on inr oth (upd nx x.toNatClampNeg v) := by
  have hqc : x.toNatClampNeg = q := by rw [hq]; exact nI_clamp (by have := (h.2.2 q hV).1; omega)
  refine ⟨fun _ _ => rfl, ⟨h.1, h.2.1, fun k hk => ?_⟩, fun k hk => ⟨rfl, rfl, rfl, rfl, up_hi hq hV h.2.1 hk⟩, Int.le_refl _⟩
  obtain ⟨g1, g2, g3, g4, g5, g6⟩ := h.2.2 k hk
  refine ⟨g1, g2, g3, g4, g5, ?_⟩
  rw [up_at hqc]
  by_cases e : k = q
  · subst e; rw [if_pos rfl]; exact hv
  · rw [if_neg e]; exact g6
/-- a new node -/
theorem PN.new (h : PN n dp kd on inr oth nx) {bl : Nat} (hbl : bl ≤ 8) {x z w : Int32} (hx : x = 2400 + n) (hz : z = n + 1) (hn : n.toInt ≠ 300) :
    ∃ q : Nat, x = nI q ∧ PV z q ∧ va_up dp q bl q = bl ∧ n.toInt < z.toInt ∧ PR n z dp (va_up dp q bl) kd on inr oth nx (upd kd x.toNatClampNeg w) (upd on x.toNatClampNeg 0) (upd inr x.toNatClampNeg (-1)) (upd oth x.toNatClampNeg (-1)) (upd nx x.toNatClampNeg (-1)) := by
  obtain ⟨h1, h2, h3⟩ := h
  have e1 : (1 : Int32).toInt = 1 := by decide
  have e24 : (2400 : Int32).toInt = 2400 := by decide
  have ez := add_i hz (by omega) (by omega)
  have ex := add_i hx (by omega) (by omega)
  rw [e1] at ez
  rw [e24] at ex
  obtain ⟨q, hq, hxq⟩ := nI_of (x := x) (by rw [Int32.lt_iff_toInt_lt]; have : (0 : Int32).toInt = 0 := by decide
                                            omega)
  have hqi : (q : Int) = 2400 + n.toInt := by rw [hxq, nI_toInt hq] at ex; exact ex
  have hqc : x.toNatClampNeg = q := by rw [hxq]; exact nI_clamp hq
  have hVq : PV z q := ⟨by omega, by omega⟩
  refine ⟨q, hxq, hVq, va_up_self _ _ _, by omega, fun k hk => va_up_ne _ _ (by omega), ⟨by omega, by omega, fun k hk => ?_⟩, fun k hk => ?_, by omega⟩
  · rw [up_at hqc, up_at hqc, up_at hqc, up_at hqc, up_at hqc]
    by_cases e : k = q
    · subst e
      rw [va_up_self, if_pos rfl, if_pos rfl, if_pos rfl, if_pos rfl, if_pos rfl]
      exact ⟨by omega, hbl, fun _ => by decide, Or.inl rfl, Or.inl rfl, Or.inl rfl⟩
    · rw [va_up_ne _ _ e, if_neg e, if_neg e, if_neg e, if_neg e, if_neg e]
      have hk0 : PV n k := ⟨hk.1, by have := hk.2; omega⟩
      have lk2 : ∀ (d : Nat) (y : Int32), lk (PV n) dp d y → lk (PV z) (va_up dp q bl) d y := by
        intro d y hy
        rcases hy with hy | ⟨k2, g1, g2, g3⟩
        · exact Or.inl hy
        · have hne : k2 ≠ q := by have := g2.2; omega
          exact Or.inr ⟨k2, g1, ⟨g2.1, by have := g2.2; omega⟩, by rw [va_up_ne _ _ hne]; exact g3⟩
      obtain ⟨g1, g2, g3, g4, g5, g6⟩ := h3 k hk0
      exact ⟨g1, g2, g3, lk2 _ _ g4, lk2 _ _ g5, lk2 _ _ g6⟩
  · have hne : k ≠ q := by omega
    rw [up_at hqc, up_at hqc, up_at hqc, up_at hqc, up_at hqc, if_neg hne, if_neg hne, if_neg hne, if_neg hne, if_neg hne]
    exact ⟨rfl, rfl, rfl, rfl, rfl⟩
end PRS
theorem lenS_le : ∀ q : Nat, q ≤ 18 → lenS.getD q 0 ≤ 6 := by decide +kernel






























noncomputable def WCI (t : Nat → Int32) (q len k n : Nat) (iw ic : Int32) : Prop := ∃ c9 : Nat, ic = nI c9 ∧ c9 ≤ 6 ∧ 6 < c9 + n ∧ (iw = 0 → ¬ mW t q len k) ∧ (¬ iw = 0 → lenS.getD k 0 = len ∧ c9 ≤ len ∧ ∀ i : Nat, i < c9 → t (q + i) = chS k i)
theorem WCI.end {t : Nat → Int32} {q len k n : Nat} {iw ic zl : Int32} (h : WCI t q len k n iw ic) (hk : k ≤ 18) (ez : zl = nI (lenS.getD k 0)) (c : zl ≤ ic) (hi : ¬ iw = 0) : mW t q len k := by
  obtain ⟨c9, h1, h2, h3, h4, h5⟩ := h
  obtain ⟨g1, g2, g3⟩ := h5 hi
  have g4 := lenS_le k hk
  rw [ez, h1, nI_leI (by omega) (by omega)] at c
  exact ⟨g1, fun i hi => g3 i (by omega)⟩
theorem WCI.nx {t : Nat → Int32} {q len k n : Nat} {iw ic zl : Int32} (h : WCI t q len k (n + 1) iw ic) (hk : k ≤ 18) (ez : zl = nI (lenS.getD k 0)) (c : ¬ zl ≤ ic) (hi : ¬ iw = 0) : ∃ c9 : Nat, ic = nI c9 ∧ c9 < lenS.getD k 0 ∧ lenS.getD k 0 = len ∧ (t (q + c9) = chS k c9 → WCI t q len k n 1 (ic + 1)) ∧ (¬ t (q + c9) = chS k c9 → WCI t q len k n 0 (ic + 1)) := by
  obtain ⟨c9, h1, h2, h3, h4, h5⟩ := h
  obtain ⟨g1, g2, g3⟩ := h5 hi
  have g4 := lenS_le k hk
  rw [ez, h1, nI_leI (by omega) (by omega)] at c
  refine ⟨c9, h1, by omega, g1, fun e => ⟨c9 + 1, by rw [h1]; exact nI_1 c9, by omega, by omega, fun g => absurd g (by decide), fun _ => ⟨g1, by omega, fun i hi => ?_⟩⟩, fun e => ⟨c9 + 1, by rw [h1]; exact nI_1 c9, by omega, by omega, fun _ g => e (g.2 c9 (by omega)), fun g => absurd rfl g⟩⟩
  rcases Nat.lt_or_ge i c9 with g | g
  · exact g3 i g
  · obtain rfl : i = c9 := by omega
    exact e
theorem WCI.st {t : Nat → Int32} {q len k : Nat} {zl z2 : Int32} (hk : k ≤ 18) (ez : zl = nI (lenS.getD k 0)) (e2 : z2 = nI len) (hl : len ≤ 1500) : (zl = z2 → WCI t q len k 7 1 0) ∧ (¬ zl = z2 → WCI t q len k 7 0 0) := by
  have g4 := lenS_le k hk
  rw [ez, e2, nI_eq (by omega) (by omega)]
  exact ⟨fun e => ⟨0, nI_0.symm, by omega, by omega, fun g => absurd g (by decide), fun _ => ⟨e, by omega, fun i hi => absurd hi (by omega)⟩⟩, fun e => ⟨0, nI_0.symm, by omega, by omega, fun _ g => e g.1, fun g => absurd rfl g⟩⟩





section NUM
variable {tt : Nat → Int32} {ln : Nat} {r : SG} {x22 x23 x24 lo hi y z : Int32}
theorem MO.nu (h : MO r y z) : MO (gnu (Kp tt ln) (Vp tt ln) (nq tt ln) lo hi r) y z := by
  rw [gnu_fx h.2.2.1]; exact h
end NUM




section TEST
variable {tt : Nat → Int32} {ln : Nat} {r : SG} {x22 x23 x24 y z w : Int32}
end TEST

