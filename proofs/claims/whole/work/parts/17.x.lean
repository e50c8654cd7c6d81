

/-- the reader's numbers stand at the state q -/
noncomputable def RQ (tt : Nat → Int32) (ln M : Nat) (q : SG) (ax tn fa pw : Int32) : Prop := (∃ j : Nat, ax = nI j ∧ j ≤ M ∧ Sj tt ln j = q.1) ∧ tn = Kp tt ln q.1 ∧ fa = q.2.2.1 ∧ pw = q.2.2.2
/-- the tokens of the text are laid -/
noncomputable def TKS (f : Nat → va_E) (ka sta vaa : Nat) (tt : Nat → Int32) (ln M : Nat) : Prop := TKp f ka sta vaa tt ln (M + 1) ∧ M ≤ 1500 ∧ Sj tt ln M = ln
theorem TKS.go {f f' : Nat → va_E} {ka sta vaa ln M : Nat} {tt : Nat → Int32} (h : TKS f ka sta vaa tt ln M) (h1 : f' ka = f ka) (h2 : f' sta = f sta) (h3 : f' vaa = f vaa) : TKS f' ka sta vaa tt ln M := ⟨h.1.go h1 h2 h3, h.2⟩
section RQS
variable {tt : Nat → Int32} {ln M : Nat} {q : SG} {ax tn fa pw : Int32}
theorem RQ.K (h : RQ tt ln M q ax tn fa pw) : tn = Kp tt ln q.1 := h.2.1
theorem RQ.F (h : RQ tt ln M q ax tn fa pw) : fa = q.2.2.1 := h.2.2.1
/-- a fault -/
theorem RQ.fault {wy fa2 pw2 : Int32} (h : RQ tt ln M q ax tn fa pw) (h0 : fa = 0) (h1 : fa2 = wy) (h2 : pw2 = nI q.1) : RQ tt ln M (grf wy q) ax tn fa2 pw2 := by
  have e : grf wy q = (q.1, q.2.1, wy, nI q.1) := by
    unfold grf gfl
    rw [if_pos (h.F.symm.trans h0)]
  rw [e]
  exact ⟨h.1, h.2.1, h1, h2⟩
theorem RQ.lt (h : RQ tt ln M q ax tn fa pw) (hS : Sj tt ln M = ln) (hM : M ≤ 1500) {wa : Int32} (hk : tn = wa) (hwa : ¬ wa = 0) : q.1 < ln ∧ ∃ j : Nat, ax = nI j ∧ j + 1 ≤ M ∧ Sj tt ln j = q.1 := by
  obtain ⟨⟨j, h1, h2, h3⟩, h4, -⟩ := h
  have hq : q.1 < ln := by
    rcases Nat.lt_or_ge q.1 ln with g | g
    · exact g
    · exact absurd (hk.symm.trans (h4.trans (Kp_0.mpr g))) hwa
  refine ⟨hq, j, h1, ?_, h3⟩
  rcases Nat.eq_or_lt_of_le h2 with g | g
  · rw [g, hS] at h3; omega
  · exact g
end RQS





theorem nle_lt {a b : Int32} (h : ¬ a ≤ b) : b < a := by
  rw [Int32.le_iff_toInt_le] at h; rw [Int32.lt_iff_toInt_lt]; omega







theorem RQ.gad {tt : Nat → Int32} {ln M : Nat} {q : SG} {ax tn fa pw ax2 tn2 fa2 pw2 w : Int32} (h : RQ tt ln M q ax tn fa pw) (h0 : fa = 0) (hw : w = tn) (h2 : RQ tt ln M (gpa (Kp tt ln) (nq tt ln) w q) ax2 tn2 fa2 pw2) : RQ tt ln M (gad (nq tt ln) q) ax2 tn2 fa2 pw2 := by
  have e : gpa (Kp tt ln) (nq tt ln) w q = (nq tt ln q.1, q.2) := by
    unfold gpa
    rw [if_pos (h.F.symm.trans h0), if_pos (h.K.symm.trans hw.symm)]
  rw [e] at h2
  exact h2







