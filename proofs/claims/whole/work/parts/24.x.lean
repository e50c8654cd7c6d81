

section EV
variable {tt : Nat → Int32} {ln : Nat} {r : SG} {x22 x23 x24 y z : Int32}
/-- steps and what must stand behind them -/
noncomputable def ST (K V : Nat → Int32) (N : Nat → Nat) (d : Nat) (c : Int32) (q rn : SG) : Prop := ∃ r1 : SG, Ev K V N 0 d q r1 ∧ rn = gpa K N c r1
end EV




theorem MI.st1 {tt : Nat → Int32} {ln d : Nat} {r : SG} {x22 x23 x24 y z : Int32} (h : MI tt ln r x22 x23 x24) (hn : ¬ (1 ≤ Kp tt ln r.1 ∧ Kp tt ln r.1 ≤ 12)) (hy : y = 1) (hz : z = nI r.1) : ∃ rn : SG, SXx (Kp tt ln) (Vp tt ln) (nq tt ln) d r rn ∧ MO rn y z :=
  ⟨gfl 1 r, Or.inr ⟨hn, rfl⟩, hy, hz, by show ¬ (1 : Int32) = 0; decide, by rw [hy]; decide⟩
theorem MI.st2 {tt : Nat → Int32} {ln d : Nat} {r : SG} {x22 x23 x24 y z n36 : Int32} (h : MI tt ln r x22 x23 x24) (hn : 1 ≤ Kp tt ln r.1 ∧ Kp tt ln r.1 ≤ 12) (h36 : n36 = nI r.2.1) (hr : r.2.1 ≤ 300) (c : n36 = 300) (hy : y = 2) (hz : z = nI r.1) : ∃ rn : SG, SXx (Kp tt ln) (Vp tt ln) (nq tt ln) d r rn ∧ MO rn y z := by
  have h3 : 300 ≤ r.2.1 := by
    have c : nI r.2.1 = nI 300 := h36.symm.trans c
    rw [nI_eq (by omega) (by omega)] at c
    omega
  refine ⟨grf 2 r, Or.inl ⟨hn, Ev.full h3⟩, ?_⟩
  have e : grf 2 r = gfl 2 r := if_pos h.2.1
  rw [e]
  exact ⟨hy, hz, by show ¬ (2 : Int32) = 0; decide, by rw [hy]; decide⟩
theorem MI.gad {tt : Nat → Int32} {ln : Nat} {r : SG} {x22 x23 x24 y : Int32} (h : MI tt ln r x22 x23 x24) (hq : r.1 < ln) (hy : y = nI (nx tt ln r.1)) : MI tt ln (gad (nq tt ln) r) y x23 x24 := by
  have h2 := h.pass (c := Kp tt ln r.1) rfl hq hy
  have e : gpa (Kp tt ln) (nq tt ln) (Kp tt ln r.1) r = (nq tt ln r.1, r.2) := by
    unfold gpa
    rw [if_pos h.2.1, if_pos rfl]
  rw [e] at h2
  exact h2


section SST
variable {tt : Nat → Int32} {ln d : Nat} {q q1 rn : SG} {x22 x23 x24 y z c : Int32}
theorem SXx.n3 {K V : Nat → Int32} {N : Nat → Nat} (h : SXx K V N d q rn) (hn : q.2.1 ≤ 300) : rn.2.1 ≤ 300 := by
  rcases h with ⟨-, h⟩ | ⟨-, rfl⟩
  · exact h.nd.2.2 hn
  · exact hn
/-- a step fails, or none stands here -/
theorem ST.no (h : MI tt ln q1 x22 x23 x24) (hall : ∀ r : SG, Ev (Kp tt ln) (Vp tt ln) (nq tt ln) 0 d q1 r → Ev (Kp tt ln) (Vp tt ln) (nq tt ln) 0 d q r) (hc : ¬ Kp tt ln q1.1 = c) (hs : SXx (Kp tt ln) (Vp tt ln) (nq tt ln) d q1 rn) (hm : MO rn y z) : ∃ rn : SG, ST (Kp tt ln) (Vp tt ln) (nq tt ln) d c q rn ∧ MO rn y z := by
  rcases hs with ⟨h1, h2⟩ | ⟨h1, rfl⟩
  · refine ⟨rn, ⟨rn, hall _ (Ev.go ⟨h.2.1, h1⟩ h2 (Ev.fx0 hm.2.2.1)), (gpa_fx hm.2.2.1).symm⟩, hm⟩
  · refine ⟨gfl 1 q1, ⟨q1, hall _ (Ev.stop fun g => h1 g.2), ?_⟩, hm⟩
    unfold gpa
    rw [if_pos h.2.1, if_neg hc]
theorem ST.go (h : MI tt ln q1 x22 x23 x24) (hall : ∀ r : SG, Ev (Kp tt ln) (Vp tt ln) (nq tt ln) 0 d q1 r → Ev (Kp tt ln) (Vp tt ln) (nq tt ln) 0 d q r) (hs : SXx (Kp tt ln) (Vp tt ln) (nq tt ln) d q1 rn) (hm : rn.2.2.1 = 0) : ∀ r : SG, Ev (Kp tt ln) (Vp tt ln) (nq tt ln) 0 d rn r → Ev (Kp tt ln) (Vp tt ln) (nq tt ln) 0 d q r := by
  rcases hs with ⟨h1, h2⟩ | ⟨h1, rfl⟩
  · exact fun r hr => hall _ (Ev.go ⟨h.2.1, h1⟩ h2 hr)
  · exact absurd (show (1 : Int32) = 0 from hm) (by decide)
end SST


