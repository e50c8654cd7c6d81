/-! numbers -/
theorem ad_i {x y : Int32} (h1 : -2147483648 ≤ x.toInt + y.toInt) (h2 : x.toInt + y.toInt < 2147483648) : (x + y).toInt = x.toInt + y.toInt := add_i rfl h1 h2
theorem su_i {x y : Int32} (h1 : -2147483648 ≤ x.toInt - y.toInt) (h2 : x.toInt - y.toInt < 2147483648) : (x - y).toInt = x.toInt - y.toInt := sub_i rfl h1 h2
theorem mu_i {x y : Int32} (h1 : -2147483648 ≤ x.toInt * y.toInt) (h2 : x.toInt * y.toInt < 2147483648) : (x * y).toInt = x.toInt * y.toInt := by
  rw [Int32.toInt_mul, Int.bmod_def]
  omega
theorem dv_i {x y : Int32} (hx : 0 ≤ x.toInt) (hy : 0 < y.toInt) : (x / y).toInt = x.toInt / y.toInt := by
  have hne : y ≠ -1 := fun e => by rw [e] at hy; exact absurd hy (by decide)
  rw [Int32.toInt_div_of_ne_right _ _ hne]
  exact Int.tdiv_eq_ediv_of_nonneg hx
/-- the grains that a dip moves -/
theorem mv_i {g st w lo fa m : Int32} (hg : 0 ≤ g.toInt ∧ g.toInt ≤ 1000000) (hw : 1 ≤ w.toInt ∧ w.toInt ≤ 50) (hm : 1 ≤ m.toInt ∧ m.toInt ≤ 20) (hl : 0 ≤ lo.toInt) (hf : 0 ≤ fa.toInt) (hs : lo.toInt + fa.toInt ≤ 200 * w.toInt) : 0 ≤ (mvV g st w lo fa m).toInt ∧ (mvV g st w lo fa m).toInt ≤ g.toInt ∧ lo.toInt + (mvV g st w lo fa m).toInt + fa.toInt ≤ 200 * w.toInt := by
  have c100 : (100 : Int32).toInt = 100 := by decide
  have c200 : (200 : Int32).toInt = 200 := by decide
  have c2 : (2 : Int32).toInt = 2 := by decide
  have hgm0 : 0 ≤ g.toInt * m.toInt := Int.mul_nonneg hg.1 (by omega)
  have hgm1 : g.toInt * m.toInt ≤ 1000000 * 20 := Int.mul_le_mul hg.2 hm.2 (by omega) (by omega)
  have hgm2 : g.toInt * m.toInt ≤ g.toInt * 20 := Int.mul_le_mul_of_nonneg_left hm.2 hg.1
  have e1 : (g * m).toInt = g.toInt * m.toInt := mu_i (by omega) (by omega)
  have e2 : (100 + w).toInt = 100 + w.toInt := by rw [ad_i (by omega) (by omega), c100]
  have e3 : (g * m / (100 + w)).toInt = g.toInt * m.toInt / (100 + w.toInt) := by rw [dv_i (by rw [e1]; exact hgm0) (by rw [e2]; omega), e1, e2]
  have q0 : 0 ≤ g.toInt * m.toInt / (100 + w.toInt) := Int.ediv_nonneg hgm0 (by omega)
  have q1 : g.toInt * m.toInt / (100 + w.toInt) ≤ g.toInt := Int.ediv_le_of_le_mul (by omega) (Int.mul_le_mul_of_nonneg_left (by omega) hg.1)
  have e4 : (g * m / (100 + w) / 2).toInt = g.toInt * m.toInt / (100 + w.toInt) / 2 := by rw [dv_i (by rw [e3]; exact q0) (by decide), e3, c2]
  have e5 : (200 * w - lo - fa).toInt = 200 * w.toInt - lo.toInt - fa.toInt := by
    have k1 : (200 * w).toInt = 200 * w.toInt := by rw [mu_i (by rw [c200]; omega) (by rw [c200]; omega), c200]
    have k2 : (200 * w - lo).toInt = 200 * w.toInt - lo.toInt := by rw [su_i (by omega) (by omega), k1]
    rw [su_i (by omega) (by omega), k2]
  unfold mvV
  by_cases h1 : st = 1
  · rw [if_pos h1]
    by_cases h2 : g * m / (100 + w) / 2 < 200 * w - lo - fa
    · rw [if_pos h2]
      rw [Int32.lt_iff_toInt_lt, e4, e5] at h2
      rw [e4]
      omega
    · rw [if_neg h2]
      rw [Int32.lt_iff_toInt_lt, e4, e5] at h2
      rw [e5]
      omega
  · rw [if_neg h1]
    by_cases h2 : g * m / (100 + w) < 200 * w - lo - fa
    · rw [if_pos h2]
      rw [Int32.lt_iff_toInt_lt, e3, e5] at h2
      rw [e3]
      omega
    · rw [if_neg h2]
      rw [Int32.lt_iff_toInt_lt, e3, e5] at h2
      rw [e5]
      omega
theorem skF_i {fo m : Int32} (hf : 0 ≤ fo.toInt ∧ fo.toInt ≤ 1000) (hm : 1 ≤ m.toInt ∧ m.toInt ≤ 20) : 0 ≤ (skF fo m).toInt ∧ (skF fo m).toInt ≤ 1000 := by
  unfold skF
  have e : (fo - m).toInt = fo.toInt - m.toInt := su_i (by omega) (by omega)
  split
  · rename_i h
    rw [Int32.le_iff_toInt_le] at h
    have c1 : (1 : Int32).toInt = 1 := by decide
    omega
  · decide
theorem tfF_i {fo n : Int32} (hf : 0 ≤ fo.toInt ∧ fo.toInt ≤ 1000) (hn : 1 ≤ n.toInt ∧ n.toInt ≤ 1000) : 0 ≤ (tfF fo n).toInt ∧ (tfF fo n).toInt ≤ 1000 := by
  unfold tfF
  have e : (fo + n).toInt = fo.toInt + n.toInt := ad_i (by omega) (by omega)
  split
  · decide
  · rename_i h
    rw [Int32.lt_iff_toInt_lt] at h
    have c1 : (1000 : Int32).toInt = 1000 := by decide
    omega
theorem half_i {fo : Int32} (hf : 0 ≤ fo.toInt ∧ fo.toInt ≤ 1000) : 0 ≤ (fo / 2).toInt ∧ (fo / 2).toInt ≤ 1000 := by
  have c2 : (2 : Int32).toInt = 2 := by decide
  rw [dv_i hf.1 (by decide), c2]
  omega
theorem hoF_i {fo : Int32} (hf : 0 ≤ fo.toInt ∧ fo.toInt ≤ 1000) : 0 ≤ (hoF fo).toInt ∧ (hoF fo).toInt ≤ 1000 ∧ (hoF fo).toInt ≤ (if fo.toInt ≤ 5 then 0 else fo.toInt - 5) := by
  unfold hoF
  have c5 : (5 : Int32).toInt = 5 := by decide
  have c0 : (0 : Int32).toInt = 0 := by decide
  have e : (fo - 5).toInt = fo.toInt - 5 := by rw [su_i (by omega) (by omega), c5]
  by_cases h : fo ≤ 5
  · rw [if_pos h]
    rw [Int32.le_iff_toInt_le, c5] at h
    rw [if_pos h, c0]
    omega
  · rw [if_neg h]
    rw [Int32.le_iff_toInt_le, c5] at h
    rw [if_neg h, e]
    omega
/-- a vat by itself, and a cloth -/
theorem air_i {w lo fa : Int32} (hw : w.toInt ≤ 50) (hl : 0 ≤ lo.toInt) (hf : 0 ≤ fa.toInt) (hs : lo.toInt + fa.toInt ≤ 200 * w.toInt) : 0 ≤ (fa + (lo - lo / 8)).toInt ∧ (fa + (lo - lo / 8)).toInt ≤ 200 * w.toInt := by
  have c8 : (8 : Int32).toInt = 8 := by decide
  have e1 : (lo / 8).toInt = lo.toInt / 8 := by rw [dv_i hl (by decide), c8]
  have e2 : (lo - lo / 8).toInt = lo.toInt - lo.toInt / 8 := by rw [su_i (by omega) (by omega), e1]
  rw [ad_i (by omega) (by omega), e2]
  omega
theorem wash_i {w fa : Int32} (hw : w.toInt ≤ 50) (hf : 0 ≤ fa.toInt) (hs : fa.toInt ≤ 200 * w.toInt) : 0 ≤ (fa - fa / 20).toInt ∧ (fa - fa / 20).toInt ≤ 200 * w.toInt := by
  have c20 : (20 : Int32).toInt = 20 := by decide
  have e1 : (fa / 20).toInt = fa.toInt / 20 := by rw [dv_i hf (by decide), c20]
  rw [su_i (by omega) (by omega), e1]
  omega
/-! what a run leaves: the trees, the cloths' number and weights and days -/
noncomputable def FX (s s' : AS) : Prop := (∀ j : Nat, 16 ≤ j → j ≠ 17 → j ≠ 18 → s'.2 j = s.2 j) ∧ s'.2 13 = s.2 13 ∧ s'.1 12 = s.1 12 ∧ s'.1 39 = s.1 39 ∧ ∀ j : Nat, j ≠ 1 → j ≠ 2 → j ≠ 40 → j ≠ 41 → j ≠ 42 → j ≠ 43 → s'.1 j = s.1 j
theorem FX.rf {s : AS} : FX s s := ⟨fun _ _ _ _ => rfl, rfl, rfl, rfl, fun _ _ _ _ _ _ _ => rfl⟩
theorem FX.tr {s s1 s2 : AS} (h : FX s s1) (h2 : FX s1 s2) : FX s s2 := ⟨fun j a b c => (h2.1 j a b c).trans (h.1 j a b c), h2.2.1.trans h.2.1, h2.2.2.1.trans h.2.2.1, h2.2.2.2.1.trans h.2.2.2.1, fun j a b c d e f => (h2.2.2.2.2 j a b c d e f).trans (h.2.2.2.2 j a b c d e f)⟩
/-- the numbers during a run; B hours before it -/
noncomputable def IV (B : Int) (s : AS) : Prop := RV s ∧ RC s ∧ 0 ≤ (s.1 1).toInt ∧ (s.1 1).toInt ≤ B + (s.1 40).toInt ∧ 0 ≤ (s.1 40).toInt ∧ (s.1 40).toInt ≤ (s.1 39).toInt ∧ (s.1 39).toInt ≤ 5000
theorem FX.fe {s : AS} {v : Nat} {n : Int32} : FX s (feA s v n) := ⟨fun j h _ _ => (va_up_ne _ _ (by omega)).trans (va_up_ne _ _ (by omega)), rfl, rfl, rfl, fun _ _ _ _ _ _ _ => rfl⟩
theorem FX.lm {s : AS} {v : Nat} : FX s (lmA s v) := ⟨fun j h _ _ => ((va_up_ne _ _ (by omega)).trans (va_up_ne _ _ (by omega))).trans (va_up_ne _ _ (by omega)), rfl, rfl, rfl, fun _ _ _ _ _ _ _ => rfl⟩
theorem FX.ai {s : AS} {c : Nat} : FX s (aiA s c) := ⟨fun j h _ _ => (va_up_ne _ _ (by omega)).trans (va_up_ne _ _ (by omega)), rfl, rfl, rfl, fun j _ h _ _ _ _ => va_up_ne _ _ h⟩
theorem FX.wa {s : AS} {c : Nat} : FX s (waA s c) := ⟨fun j h _ _ => (va_up_ne _ _ (by omega)).trans (va_up_ne _ _ (by omega)), rfl, rfl, rfl, fun j _ h _ _ _ _ => va_up_ne _ _ h⟩
theorem FX.co {s : AS} : FX s (coA s) := ⟨fun _ _ _ _ => rfl, rfl, rfl, rfl, fun j _ _ h _ _ _ => va_up_ne _ _ h⟩
theorem FX.h1 {s : AS} : FX s (h1A s) := ⟨fun j h _ _ => ((((va_up_ne _ _ (by omega)).trans (va_up_ne _ _ (by omega))).trans (va_up_ne _ _ (by omega))).trans (va_up_ne _ _ (by omega))).trans (va_up_ne _ _ (by omega)), rfl, rfl, rfl, fun j h1 _ h2 _ _ h3 => ((va_up_ne _ _ h3).trans (va_up_ne _ _ h2)).trans (va_up_ne _ _ h1)⟩
theorem FX.dp {s : AS} {c v : Nat} {m n : Int32} : FX s (va_up (va_up s.1 41 (s.1 41 + 1)) 42 (s.1 42 + n), (diA s c v m n).2) := ⟨fun j h h17 h18 => (va_up_ne _ _ h18).trans ((va_up_ne _ _ h17).trans ((va_up_ne _ _ (by omega)).trans ((va_up_ne _ _ (by omega)).trans ((va_up_ne _ _ (by omega)).trans ((va_up_ne _ _ (by omega)).trans ((va_up_ne _ _ (by omega)).trans ((va_up_ne _ _ (by omega)).trans ((va_up_ne _ _ (by omega)).trans (va_up_ne _ _ (by omega)))))))))), rfl, rfl, rfl, fun j _ _ _ h1 h2 _ => (va_up_ne _ _ h2).trans (va_up_ne _ _ h1)⟩
section IVS
variable {B : Int} {s : AS} {c v k : Nat} {m n : Int32}
theorem IV.co (h : IV B s) (hl : ¬ s.1 40 = s.1 39) : IV B (coA s) := by
  obtain ⟨h1, h2, h3, h4, h5, h6, h7⟩ := h
  have hlt : (s.1 40).toInt ≠ (s.1 39).toInt := fun e => hl (Int32.toInt_inj.mp e)
  have c1 : (1 : Int32).toInt = 1 := by decide
  have e : (s.1 40 + 1).toInt = (s.1 40).toInt + 1 := by rw [ad_i (by omega) (by omega), c1]
  exact ⟨h1, h2, h3, by show (s.1 1).toInt ≤ B + (s.1 40 + 1).toInt; rw [e]; omega, by show 0 ≤ (s.1 40 + 1).toInt; rw [e]; omega, by show (s.1 40 + 1).toInt ≤ (s.1 39).toInt; rw [e]; omega, h7⟩
/-- only the vats' grains and food are others -/
theorem IV.vat (h : IV B s) {a2 : Nat → Nat → Int32} (hv : RV (s.1, a2)) (hc : ∀ j : Nat, 13 ≤ j → j ≤ 16 → a2 j = s.2 j) : IV B (s.1, a2) := by
  obtain ⟨h1, h2, h3⟩ := h
  refine ⟨hv, ⟨h2.1, fun k hk => ?_⟩, h3⟩
  show (1 ≤ (a2 13 k).toInt ∧ (a2 13 k).toInt ≤ 50) ∧ 0 ≤ (a2 14 k).toInt ∧ 0 ≤ (a2 15 k).toInt ∧ (a2 14 k).toInt + (a2 15 k).toInt ≤ 200 * (a2 13 k).toInt ∧ -1 ≤ (a2 16 k).toInt
  rw [hc 13 (by omega) (by omega), hc 14 (by omega) (by omega), hc 15 (by omega) (by omega), hc 16 (by omega) (by omega)]
  exact h2.2 k hk
theorem IV.fe (h : IV B s) (hv : v < 6) (hn : 1 ≤ n.toInt ∧ n.toInt ≤ 1000) : IV B (feA s v n) := by
  refine h.vat (fun k hk => ?_) (fun j h1 h2 => (va_up_ne _ _ (by omega)).trans (va_up_ne _ _ (by omega)))
  refine ⟨(h.1 k hk).1, ?_⟩
  show 0 ≤ (upd (s.2 5) v (tfF (s.2 5 v) n) k).toInt ∧ (upd (s.2 5) v (tfF (s.2 5 v) n) k).toInt ≤ 1000
  by_cases e : k = v
  · rw [show upd (s.2 5) v (tfF (s.2 5 v) n) k = tfF (s.2 5 v) n from if_pos e]; exact tfF_i (h.1 v hv).2 hn
  · rw [show upd (s.2 5) v (tfF (s.2 5 v) n) k = s.2 5 k from if_neg e]; exact (h.1 k hk).2
theorem IV.lm (h : IV B s) (hv : v < 6) : IV B (lmA s v) := by
  refine h.vat (fun k hk => ?_) (fun j h1 h2 => ((va_up_ne _ _ (by omega)).trans (va_up_ne _ _ (by omega))).trans (va_up_ne _ _ (by omega)))
  refine ⟨(h.1 k hk).1, ?_⟩
  show 0 ≤ (upd (s.2 5) v (s.2 5 v / 2) k).toInt ∧ (upd (s.2 5) v (s.2 5 v / 2) k).toInt ≤ 1000
  by_cases e : k = v
  · rw [show upd (s.2 5) v (s.2 5 v / 2) k = s.2 5 v / 2 from if_pos e]; exact half_i (h.1 v hv).2
  · rw [show upd (s.2 5) v (s.2 5 v / 2) k = s.2 5 k from if_neg e]; exact (h.1 k hk).2
theorem RV.ho (h : RV s) : ∀ i : Nat → Int32, RV (i, (ho1 s 6).2) := fun i k hk => by
  refine ⟨(h k hk).1, ?_⟩
  show 0 ≤ (if k < 6 then hoF (s.2 5 k) else s.2 5 k).toInt ∧ (if k < 6 then hoF (s.2 5 k) else s.2 5 k).toInt ≤ 1000
  rw [if_pos hk]
  have := hoF_i (h k hk).2
  exact ⟨this.1, this.2.1⟩
theorem RC.ho (h : RC s) {i : Nat → Int32} (hi : i 12 = s.1 12) : RC (i, (ho1 s 6).2) := by
  refine ⟨by show 0 ≤ (i 12).toInt ∧ (i 12).toInt ≤ 30; rw [hi]; exact h.1, fun k hk => ?_⟩
  have hk : (k : Int) < (i 12).toInt := hk
  rw [hi] at hk
  exact h.2 k hk
theorem IV.h1 (h : IV B s) (hl : ¬ s.1 40 = s.1 39) (hB : B ≤ 10000000) : IV B (h1A s) := by
  obtain ⟨h1, h2, h3, h4, h5, h6, h7⟩ := h
  have hlt : (s.1 40).toInt ≠ (s.1 39).toInt := fun e => hl (Int32.toInt_inj.mp e)
  have c1 : (1 : Int32).toInt = 1 := by decide
  have e : (s.1 40 + 1).toInt = (s.1 40).toInt + 1 := by rw [ad_i (by omega) (by omega), c1]
  have e2 : (s.1 1 + 1).toInt = (s.1 1).toInt + 1 := by rw [ad_i (by omega) (by omega), c1]
  exact ⟨h1.ho _, h2.ho rfl, by show 0 ≤ (s.1 1 + 1).toInt; rw [e2]; omega, by show (s.1 1 + 1).toInt ≤ B + (s.1 40 + 1).toInt; rw [e, e2]; omega, by show 0 ≤ (s.1 40 + 1).toInt; rw [e]; omega, by show (s.1 40 + 1).toInt ≤ (s.1 39).toInt; rw [e]; omega, h7⟩
/-- only a cloth's grains are others -/
theorem IV.cl (h : IV B s) {i2 : Nat → Int32} {a2 : Nat → Nat → Int32} {lo fa : Int32} (h4 : a2 4 = s.2 4) (h5 : a2 5 = s.2 5) (h13 : a2 13 = s.2 13) (h14 : a2 14 = upd (s.2 14) c lo) (h15 : a2 15 = upd (s.2 15) c fa) (h16 : a2 16 = s.2 16) (hi : ∀ j : Nat, j ≠ 2 → i2 j = s.1 j) (hc : (c : Int) < (s.1 12).toInt → 0 ≤ lo.toInt ∧ 0 ≤ fa.toInt ∧ lo.toInt + fa.toInt ≤ 200 * (s.2 13 c).toInt) : IV B (i2, a2) := by
  obtain ⟨k1, k2, k3, k4, k5, k6, k7⟩ := h
  refine ⟨fun k hk => ?_, ⟨?_, fun k hk => ?_⟩, ?_⟩
  · show (0 ≤ (a2 4 k).toInt ∧ (a2 4 k).toInt ≤ 1000000) ∧ 0 ≤ (a2 5 k).toInt ∧ (a2 5 k).toInt ≤ 1000
    rw [h4, h5]; exact k1 k hk
  · show 0 ≤ (i2 12).toInt ∧ (i2 12).toInt ≤ 30
    rw [hi 12 (by decide)]; exact k2.1
  · have hk : (k : Int) < (i2 12).toInt := hk
    rw [hi 12 (by decide)] at hk
    show (1 ≤ (a2 13 k).toInt ∧ (a2 13 k).toInt ≤ 50) ∧ 0 ≤ (a2 14 k).toInt ∧ 0 ≤ (a2 15 k).toInt ∧ (a2 14 k).toInt + (a2 15 k).toInt ≤ 200 * (a2 13 k).toInt ∧ -1 ≤ (a2 16 k).toInt
    rw [h13, h14, h15, h16]
    have q := k2.2 k hk
    by_cases e : k = c
    · subst e
      rw [show upd (s.2 14) k lo k = lo from if_pos rfl, show upd (s.2 15) k fa k = fa from if_pos rfl]
      have := hc hk
      exact ⟨q.1, this.1, this.2.1, this.2.2, q.2.2.2.2⟩
    · rw [show upd (s.2 14) c lo k = s.2 14 k from if_neg e, show upd (s.2 15) c fa k = s.2 15 k from if_neg e]
      exact q
  · show 0 ≤ (i2 1).toInt ∧ (i2 1).toInt ≤ B + (i2 40).toInt ∧ 0 ≤ (i2 40).toInt ∧ (i2 40).toInt ≤ (i2 39).toInt ∧ (i2 39).toInt ≤ 5000
    rw [hi 1 (by decide), hi 40 (by decide), hi 39 (by decide)]
    exact ⟨k3, k4, k5, k6, k7⟩
theorem IV.ai (h : IV B s) : IV B (aiA s c) := h.cl rfl rfl rfl rfl rfl rfl (fun j hj => va_up_ne _ _ hj) (fun hc => by
  have q := h.2.1.2 c hc
  have := air_i q.1.2 q.2.1 q.2.2.1 q.2.2.2.1
  have c0 : (0 : Int32).toInt = 0 := by decide
  exact ⟨by decide, this.1, by omega⟩)
theorem IV.wa (h : IV B s) : IV B (waA s c) := h.cl rfl rfl rfl rfl rfl rfl (fun j hj => va_up_ne _ _ hj) (fun hc => by
  have q := h.2.1.2 c hc
  have := wash_i q.1.2 q.2.2.1 (by omega)
  have c0 : (0 : Int32).toInt = 0 := by decide
  exact ⟨by decide, this.1, by omega⟩)
theorem IV.dp (h : IV B s) (hv : v < 6) (hc : (c : Int) < (s.1 12).toInt) (hm : 1 ≤ m.toInt ∧ m.toInt ≤ 20) : IV B (va_up (va_up s.1 41 (s.1 41 + 1)) 42 (s.1 42 + mvA s c v m), (diA s c v m (mvA s c v m)).2) := by
  obtain ⟨k1, k2, k3, k4, k5, k6, k7⟩ := h
  have q := k2.2 c hc
  have hmv := mv_i (st := s.2 7 v) (k1 v hv).1 q.1 hm q.2.1 q.2.2.1 q.2.2.2.1
  have hmv : 0 ≤ (mvA s c v m).toInt ∧ (mvA s c v m).toInt ≤ (s.2 4 v).toInt ∧ (s.2 14 c).toInt + (mvA s c v m).toInt + (s.2 15 c).toInt ≤ 200 * (s.2 13 c).toInt := hmv
  refine ⟨fun k hk => ⟨?_, ?_⟩, ⟨k2.1, fun k hk => ?_⟩, k3, k4, k5, k6, k7⟩
  · show 0 ≤ (upd (s.2 4) v (s.2 4 v - mvA s c v m) k).toInt ∧ (upd (s.2 4) v (s.2 4 v - mvA s c v m) k).toInt ≤ 1000000
    by_cases e : k = v
    · rw [show upd (s.2 4) v (s.2 4 v - mvA s c v m) k = s.2 4 v - mvA s c v m from if_pos e]
      have := (k1 v hv).1
      rw [su_i (by omega) (by omega)]
      omega
    · rw [show upd (s.2 4) v (s.2 4 v - mvA s c v m) k = s.2 4 k from if_neg e]; exact (k1 k hk).1
  · show 0 ≤ (upd (s.2 5) v (skF (s.2 5 v) m) k).toInt ∧ (upd (s.2 5) v (skF (s.2 5 v) m) k).toInt ≤ 1000
    by_cases e : k = v
    · rw [show upd (s.2 5) v (skF (s.2 5 v) m) k = skF (s.2 5 v) m from if_pos e]; exact skF_i (k1 v hv).2 hm
    · rw [show upd (s.2 5) v (skF (s.2 5 v) m) k = s.2 5 k from if_neg e]; exact (k1 k hk).2
  · have hk : (k : Int) < (s.1 12).toInt := hk
    have q2 := k2.2 k hk
    show (1 ≤ (s.2 13 k).toInt ∧ (s.2 13 k).toInt ≤ 50) ∧ 0 ≤ (upd (s.2 14) c (s.2 14 c + mvA s c v m) k).toInt ∧ 0 ≤ (s.2 15 k).toInt ∧ (upd (s.2 14) c (s.2 14 c + mvA s c v m) k).toInt + (s.2 15 k).toInt ≤ 200 * (s.2 13 k).toInt ∧ -1 ≤ (s.2 16 k).toInt
    by_cases e : k = c
    · subst e
      rw [show upd (s.2 14) k (s.2 14 k + mvA s k v m) k = s.2 14 k + mvA s k v m from if_pos rfl, ad_i (by omega) (by omega)]
      exact ⟨q.1, by omega, q.2.2.1, by omega, q.2.2.2.2⟩
    · rw [show upd (s.2 14) c (s.2 14 c + mvA s c v m) k = s.2 14 k from if_neg e]
      exact q2
end IVS
/-! the nodes of a tree -/
noncomputable def NVk (s : AS) (k : Nat) : Prop := (0 ≤ (s.2 26 k).toInt ∧ (s.2 26 k).toInt ≤ 11) ∧ (s.2 26 k = 0 ∨ s.2 26 k = 4 ∨ s.2 26 k = 5 → 0 ≤ (s.2 27 k).toInt ∧ (s.2 27 k).toInt ≤ 5) ∧ (s.2 26 k = 0 → 1 ≤ (s.2 28 k).toInt ∧ (s.2 28 k).toInt ≤ 20) ∧ (s.2 26 k = 4 → 1 ≤ (s.2 28 k).toInt ∧ (s.2 28 k).toInt ≤ 1000) ∧ (s.2 26 k = 3 → 1 ≤ (s.2 27 k).toInt ∧ (s.2 27 k).toInt ≤ 200) ∧ (s.2 26 k = 6 → 1 ≤ (s.2 27 k).toInt ∧ (s.2 27 k).toInt ≤ 99) ∧ (s.2 26 k = 9 → (14 ≤ (s.2 29 k).toInt ∧ (s.2 29 k).toInt ≤ 18) ∧ (s.2 29 k = 17 ∨ s.2 29 k = 18 → 0 ≤ (s.2 27 k).toInt ∧ (s.2 27 k).toInt ≤ 5))
/-- all nodes of V are well, and their links stay in V -/
noncomputable def NV (V : Nat → Prop) (s : AS) : Prop := ∀ k : Nat, V k → NVk s k ∧ ∀ j : Nat, (j = 31 ∨ j = 32 ∨ j = 33) → s.2 j k = -1 ∨ ∃ q : Nat, s.2 j k = nI q ∧ V q ∧ q < 2700
theorem NV.fx {V : Nat → Prop} {s s' : AS} (h : NV V s) (hf : FX s s') : NV V s' := fun k hk => by
  obtain ⟨h1, h2⟩ := h k hk
  have e : ∀ j : Nat, 19 ≤ j → s'.2 j = s.2 j := fun j hj => hf.1 j (by omega) (by omega) (by omega)
  refine ⟨?_, fun j hj => ?_⟩
  · unfold NVk
    rw [e 26 (by omega), e 27 (by omega), e 28 (by omega), e 29 (by omega)]
    exact h1
  · rw [e j (by omega)]
    exact h2 j hj
