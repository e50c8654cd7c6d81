theorem idx_lt {x : Int32} {n : Nat} (h : vp_in x n) : x.toNatClampNeg < n := Nat.not_le.mp fun q => h (Or.inr q)
theorem pl_q {ii mo : Int32} {n : Nat} (hm : ∃ q : Nat, ii = nI q ∧ q ≤ 4 ∧ 4 < q + n) (h : ¬ mo < ii) (h3 : mo.toInt ≤ 3) : ∃ q : Nat, ii = nI q ∧ q ≤ 3 := by
  obtain ⟨q, h1, h2, -⟩ := hm
  refine ⟨q, h1, ?_⟩
  rw [Int32.lt_iff_toInt_lt, h1, nI_toInt (by omega)] at h
  omega
theorem pl_nx {ii mo : Int32} {n : Nat} (hm : ∃ q : Nat, ii = nI q ∧ q ≤ 4 ∧ 4 < q + (n + 1)) (h : ¬ mo < ii) (h3 : mo.toInt ≤ 3) : ∃ q : Nat, ii + 1 = nI q ∧ q ≤ 4 ∧ 4 < q + n := by
  obtain ⟨q, h1, h2⟩ := pl_q hm h h3
  obtain ⟨q', h1', h2', h3'⟩ := hm
  have : q = q' := (nI_eq (by omega) (by omega)).mp (h1.symm.trans h1')
  subst this
  exact ⟨q + 1, by rw [h1]; exact nI_1 q, by omega, by omega⟩
/-- a link: none, or a node that is there, at that depth -/
noncomputable def lk (V : Nat → Prop) (dp : Nat → Nat) (d : Nat) (x : Int32) : Prop := x = -1 ∨ ∃ q : Nat, x = nI q ∧ V q ∧ dp q = d
/-- the nodes: kinds, numbers, links and depths -/
noncomputable def ND (V : Nat → Prop) (dp : Nat → Nat) (kd on inr oth nx : Nat → Int32) : Prop := ∀ k : Nat, V k → k < 2700 ∧ dp k ≤ 8 ∧ (kd k = 0 ∨ kd k = 4 ∨ kd k = 5 ∨ kd k = 9 → 0 ≤ (on k).toInt ∧ (on k).toInt ≤ 5) ∧ lk V dp (dp k + 1) (inr k) ∧ lk V dp (dp k + 1) (oth k) ∧ lk V dp (dp k) (nx k)
section NDS
variable {V : Nat → Prop} {dp : Nat → Nat} {kd on inr oth nx : Nat → Int32}
theorem ND.one (h : ND V dp kd on inr oth nx) {q : Nat} (hV : V q) {x z zk : Int32} (hk : x.toNatClampNeg = q) (ez : z = on x.toNatClampNeg) (ek : zk = kd x.toNatClampNeg) (hz : zk = 0 ∨ zk = 4 ∨ zk = 5 ∨ zk = 9) : vp_in z 6 := by
  subst hk
  have h1 := (h _ hV).2.2.1 (by rw [← ek]; exact hz)
  rw [ez]
  exact in_i h1.1 (by omega)
theorem lk.node {d : Nat} {x : Int32} (h : lk V dp d x) (hn : ¬ x = -1) : ∃ q : Nat, x = nI q ∧ V q ∧ dp q = d := h.resolve_left hn
theorem lk.in (hN : ND V dp kd on inr oth nx) {d : Nat} {x : Int32} (h : lk V dp d x) (hn : ¬ x = -1) : vp_in x 2700 := by
  obtain ⟨q, h1, h2, -⟩ := h.node hn
  rw [h1]
  exact vp_in_nI (hN q h2).1 (by decide)
theorem lk.next (hN : ND V dp kd on inr oth nx) {d : Nat} {x z : Int32} (h : lk V dp d x) (hn : ¬ x = -1) (hz : z = nx x.toNatClampNeg) : lk V dp d z := by
  obtain ⟨q, h1, h2, h3⟩ := h.node hn
  have h4 := (hN q h2).1
  rw [hz, h1, nI_clamp (by omega), ← h3]
  exact (hN q h2).2.2.2.2.2
end NDS

theorem inw_X10_keeps_10 : ∀ w ∈ wsX100, w ∈ wsX10_keeps := fun _ h => List.mem_cons_of_mem _ (List.mem_append_right _ h)

theorem inw_X10_restores_10 : ∀ w ∈ wsX100, w ∈ wsX10_restores := fun _ h => List.mem_cons_of_mem _ (List.mem_append_right _ h)

theorem inw_X10_thinks_10 : ∀ w ∈ wsX100, w ∈ wsX10_thinks := fun _ h => List.mem_cons_of_mem _ (List.mem_append_right _ h)

theorem inw_X10_leads_10 : ∀ w ∈ wsX100, w ∈ wsX10_leads := fun _ h => List.mem_cons_of_mem _ (List.mem_append_right _ h)


theorem inw_X10_plan_10 : ∀ w ∈ wsX100, w ∈ wsX10_plan := fun _ h => List.mem_cons_of_mem _ (List.mem_append_right _ h)










