/-- the bytes of a number, the first of them first -/
noncomputable def b8 (x : Int32) (i : Nat) : Int32 := vp_nar .byte (x >>> ((24 - 8 * nI i) &&& 31)).toInt8.toInt32
noncomputable def apF (b : Int32 → Nat → Int32) (t : Nat → Int32) (n : Nat) (x : Int32) : Nat → (Nat → Int32)
  | 0 => t
  | i + 1 => upd (apF b t n x i) (n + i) (b x i)
noncomputable def APX (f f1 : Nat → va_E) (tp : Nat) (tl k1 sh fb : Int32) : Prop := ∀ nn : Nat, tl = nI nn → nn ≤ 1496 → ∃ i : Nat, i ≤ 4 ∧ sh = 24 - 8 * nI i ∧ k1 = nI (nn + i) ∧ ia f1 tp = apF b8 (ia f tp) nn fb i
theorem shv_nx : ∀ i : Nat, i < 5 → (24 - 8 * nI i + -8 : Int32) = 24 - 8 * nI (i + 1) := by decide +kernel
theorem shv_4 : ∀ i : Nat, i < 5 → ((24 - 8 * nI i : Int32) < 0 ↔ i = 4) := by decide +kernel
theorem APX.no {f f1 f2 : Nat → va_E} {tp : Nat} {tl k1 k2 sh sh2 fb : Int32} (h : APX f f1 tp tl k1 sh fb) (h0 : ¬ sh < 0) (hk : k1 < 0 ∨ 1500 ≤ k1) : APX f f2 tp tl k2 sh2 fb := by
  intro nn h1 h2
  obtain ⟨i, g1, g2, g3, -⟩ := h nn h1 h2
  rw [g2, shv_4 i (by omega)] at h0
  rcases hk with hk | hk
  · rw [g3] at hk; exact absurd hk (nI_pos (by omega))
  · rw [g3] at hk
    have hk : nI 1500 ≤ nI (nn + i) := hk
    rw [nI_leI (by omega) (by omega)] at hk
    omega
theorem APX.nx {f f1 f2 : Nat → va_E} {tp : Nat} {tl k1 k2 sh fb z1 z2 : Int32} (h : APX f f1 tp tl k1 sh fb) (h0 : ¬ sh < 0) (hz1 : z1 = fb >>> (sh &&& 31)) (hz2 : z2 = z1.toInt8.toInt32) (hf : ia f2 tp = upd (ia f1 tp) k1.toNatClampNeg (vp_nar .byte z2)) (hk : k2 = k1 + 1) : APX f f2 tp tl k2 (sh + -8) fb := by
  intro nn h1 h2
  obtain ⟨i, g1, g2, g3, g4⟩ := h nn h1 h2
  rw [g2, shv_4 i (by omega)] at h0
  refine ⟨i + 1, by omega, by rw [g2]; exact shv_nx i (by omega), by rw [hk, g3]; exact nI_1 _, ?_⟩
  rw [hf, g3, nI_clamp (by omega), g4, hz2, hz1, g2]
  rfl
theorem APX.e {f f1 : Nat → va_E} {tp : Nat} {tl k1 sh fb : Int32} (h : APX f f1 tp tl k1 sh fb) (h0 : sh < 0) (nn : Nat) (h1 : tl = nI nn) (h2 : nn ≤ 1496) : k1 = nI (nn + 4) ∧ ia f1 tp = apF b8 (ia f tp) nn fb 4 := by
  obtain ⟨i, g1, g2, g3, g4⟩ := h nn h1 h2
  rw [g2, shv_4 i (by omega)] at h0
  subst h0
  exact ⟨g3, g4⟩







