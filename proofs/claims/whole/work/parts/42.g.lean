/-! plan's answers, both sides (p14 alone) -/
section PLL
variable {g : Nat → Nat} {L L2 : List Nat} {f f2 : Nat → va_E} {x0 wk vs cl ru pl tvr k b : Nat} {va : Nat → Nat} {s : AS} {cs : List (Nat × Nat)} {r : Option Value} {ck lw hg mo : Int32} {P1 P2 Q1 Q2 : Prop} {fo : Int64}
theorem WT.ks (hW : WT g L f) (ha : pl ∈ L ∧ sh (f pl) = (0, 1, 0)) : ∃ ks : Nat, rd f pl 8 = .ref ks ∧ ks ∈ L ∧ sh (f ks) = (1, g 9, 3) := by
  obtain ⟨fs, hf⟩ := sh_obj ha.2
  have ho := hW.2 pl ha.1
  rw [hf] at ho
  have hl : 8 < fs.length := by
    have h1 : fs.length = 9 := ho.1
    omega
  obtain ⟨b, hb, h1, h2⟩ := ho.2 8 (1, 1, g 9, 3) fs[8] rfl (List.getElem?_eq_getElem hl)
  exact ⟨b, by simp [rd, hf, hl, hb], h1, h2⟩
theorem WT.tvm (hW : WT g L f) (ha : tvr ∈ L ∧ sh (f tvr) = (2, g 10, 6)) (hk : k < 6) (h : ra f tvr k = some b) : b ∈ L ∧ sh (f b) = (0, 7, 0) := by
  obtain ⟨x, hf⟩ := sh_ref ha.2
  have ho := hW.2 tvr ha.1
  rw [hf] at ho
  have hx : x k = some b := by
    have h9 := h
    simp only [ra, hf] at h9
    exact h9
  rcases ho.1 (Or.inr rfl) k hk with ⟨e, -⟩ | ⟨b2, h2, h3, h4⟩
  · cases e
  · rw [hx] at h2
    cases h2
    exact ⟨h3, h4⟩
theorem pl_end {o o9 : OP} {z zb y0 : Int32} (h : plS ck lw hg mo s o) (hr : some (Value.int z) = some (.int o.1)) (hf : o.1 = 0 → fo = o.2.1.toInt64) (h9 : plS ck lw hg mo s o9) (m0 : y0 = o9.1) (m1 : o9.1 = 0 → some (Value.int zb) = some (.int o9.2.1)) : y0 = z ∧ (z = 0 → fo = zb.toInt64) := by
  have e := h.one h9
  subst e
  have ez : z = o.1 := by cases hr; rfl
  refine ⟨by rw [m0, ez], fun h => ?_⟩
  rw [ez] at h
  have h2 := m1 h
  rw [hf h]
  cases h2
  rfl
end PLL
