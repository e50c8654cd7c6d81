
theorem lv8b {x : Int32} {bl j : Nat} (hBL : x = nI bl) (hn : ¬ x = 8) (hj : bl + j = 8) : ∃ j1 : Nat, j = j1 + 1 := by
  rcases Nat.eq_zero_or_pos j with h | h
  · have e : bl = 8 := by omega
    rw [e] at hBL
    exact absurd (hBL.trans (by decide)) hn
  · exact ⟨j - 1, by omega⟩
theorem nx300 {x y : Int32} {n : Nat} (hm : (300 - x.toInt).toNat < n + 1) (h : x.toInt < y.toInt) (h3 : y.toInt ≤ 300) : (300 - y.toInt).toNat < n := by
  omega
theorem nq_ne {z n : Int32} {q : Nat} (hz : z = nI q) (hV : PV n q) (hn : n.toInt ≤ 300) : ¬ z = -1 ∧ ¬ z = -2 := by
  have h1 := hV.2
  have e : z.toInt = (q : Int) := by rw [hz]; exact nI_toInt (by omega)
  exact ⟨fun h => by rw [h] at e; have : (-1 : Int32).toInt = -1 := by decide
                     omega, fun h => by rw [h] at e; have : (-2 : Int32).toInt = -2 := by decide
                                        omega⟩
theorem lk.ne2 {V : Nat → Prop} {dp : Nat → Nat} {kd on inr oth nx : Nat → Int32} (hN : ND V dp kd on inr oth nx) {d : Nat} {x : Int32} (h : lk V dp d x) : ¬ x = -2 := by
  rcases h with h | ⟨q, h1, h2, -⟩
  · rw [h]; decide
  · have h3 := (hN q h2).1
    have e : x.toInt = (q : Int) := by rw [h1]; exact nI_toInt (by omega)
    intro h
    rw [h] at e
    have : (-2 : Int32).toInt = -2 := by decide
    omega

section EV
variable {tt : Nat → Int32} {ln : Nat} {r : SG} {x22 x23 x24 y z : Int32}
theorem MI.bk1 (h : MI tt ln r x22 x23 x24) (d : Nat) (hK : ¬ Kp tt ln r.1 = 123) (hy : y = 1) (hz : z = nI r.1) : ∃ rn : SG, Ev (Kp tt ln) (Vp tt ln) (nq tt ln) 2 d r rn ∧ MO rn y z := by
  have e : gob (Kp tt ln) (nq tt ln) d r = gpa (Kp tt ln) (nq tt ln) 123 r := by
    unfold gob
    rw [if_neg (fun g => hK g.1)]
  have hm := h.fl hK hy hz
  exact ⟨_, Ev.block0 (d := d) (by rw [e]; exact hm.2.2.1), by rw [e]; exact hm⟩
theorem MI.bk2 (h : MI tt ln r x22 x23 x24) {d : Nat} (hK : Kp tt ln r.1 = 123) (hd : 8 ≤ d) (hy : y = 2) (hz : z = nI r.1) : ∃ rn : SG, Ev (Kp tt ln) (Vp tt ln) (nq tt ln) 2 d r rn ∧ MO rn y z := by
  have hf : ¬ (gfl 2 r).2.2.1 = 0 := by show ¬ (2 : Int32) = 0; decide
  have e : gob (Kp tt ln) (nq tt ln) d r = gfl 2 r := by
    unfold gob grf
    rw [if_pos ⟨hK, hd⟩, if_pos h.2.1, gpa_fx hf]
  exact ⟨_, Ev.block0 (d := d) (by rw [e]; exact hf), by rw [e]; exact ⟨hy, hz, hf, by rw [hy]; decide⟩⟩
theorem MI.bk3 (h : MI tt ln r x22 x23 x24) {d : Nat} (hK : Kp tt ln r.1 = 123) (hq : r.1 < ln) (hd : ¬ 8 ≤ d) (hy : y = nI (nx tt ln r.1)) : MI tt ln (gob (Kp tt ln) (nq tt ln) d r) y x23 x24 := by
  unfold gob
  rw [if_neg (fun g => hd g.2)]
  exact h.pass hK hq hy
theorem MI.gob0 {d : Nat} (h : MI tt ln (gob (Kp tt ln) (nq tt ln) d r) x22 x23 x24) : (gob (Kp tt ln) (nq tt ln) d r).2.2.1 = 0 := h.2.1
/-- steps and what must stand behind them -/
noncomputable def ST (K V : Nat → Int32) (N : Nat → Nat) (d : Nat) (c : Int32) (q rn : SG) : Prop := ∃ r1 : SG, Ev K V N 0 d q r1 ∧ rn = gpa K N c r1
theorem ST.bk {d : Nat} {rn : SG} (h0 : (gob (Kp tt ln) (nq tt ln) d r).2.2.1 = 0) (h : ST (Kp tt ln) (Vp tt ln) (nq tt ln) (d + 1) 125 (gob (Kp tt ln) (nq tt ln) d r) rn) : Ev (Kp tt ln) (Vp tt ln) (nq tt ln) 2 d r rn := by
  obtain ⟨r1, h1, rfl⟩ := h
  exact Ev.block h0 h1
end EV

theorem inw_X10_block_10 : ∀ w ∈ wsX100, w ∈ wsX10_block := fun _ h => List.mem_cons_of_mem _ (List.mem_append_right _ h)

theorem cw_is {cw z k a : Int32} (h : a = cw - 1) (e : z = a) (c : z = k) : cw = k + 1 := by
  rw [← c, e, h]
  exact (Int32.sub_add_cancel _ _).symm
theorem cw_12 {cw z a : Int32} (h : a = cw - 1 ∧ 1 ≤ cw ∧ cw ≤ 12) (e : z = a) (c : ¬ z = 0 ∧ ¬ z = 1 ∧ ¬ z = 2 ∧ ¬ z = 3 ∧ ¬ z = 4 ∧ ¬ z = 5 ∧ ¬ z = 6 ∧ ¬ z = 7 ∧ ¬ z = 8 ∧ ¬ z = 9 ∧ ¬ z = 10) : cw = 12 := by
  obtain ⟨h1, h2, h3⟩ := h
  rw [e, h1] at c
  have e1 : (1 : Int32).toInt = 1 := by decide
  have e12 : (12 : Int32).toInt = 12 := by decide
  rw [Int32.le_iff_toInt_le] at h2 h3
  have es : (cw - 1).toInt = cw.toInt - 1 := by rw [Int32.toInt_sub, Int.bmod_def]; omega
  obtain ⟨c0, c1, c2, c3, c4, c5, c6, c7, c8, c9, c10⟩ := c
  rw [← Int32.toInt_inj, es] at c0 c1 c2 c3 c4 c5 c6 c7 c8 c9 c10
  have k0 : (0 : Int32).toInt = 0 := by decide
  have k2 : (2 : Int32).toInt = 2 := by decide
  have k3 : (3 : Int32).toInt = 3 := by decide
  have k4 : (4 : Int32).toInt = 4 := by decide
  have k5 : (5 : Int32).toInt = 5 := by decide
  have k6 : (6 : Int32).toInt = 6 := by decide
  have k7 : (7 : Int32).toInt = 7 := by decide
  have k8 : (8 : Int32).toInt = 8 := by decide
  have k9 : (9 : Int32).toInt = 9 := by decide
  have k10 : (10 : Int32).toInt = 10 := by decide
  rw [← Int32.toInt_inj]
  omega
theorem BU.i10x {K V : Nat → Int32} {N : Nat → Nat} {d : Nat} {q s : SG} (h : Ev K V N 2 d (gte K V N q) s) (hf : ¬ s.2.2.1 = 0) : RSx K V N 10 d q s := by
  by_cases c : K s.1 = 13
  · exact BU.i10 h (Or.inr ⟨c, by rw [gpa_fx hf]; exact Ev.fx2 hf⟩)
  · exact BU.i10 h (Or.inl ⟨c, rfl⟩)
theorem BU.i11x {K V : Nat → Int32} {N : Nat → Nat} {d : Nat} {q s : SG} (h : Ev K V N 2 d q s) (hf : ¬ s.2.2.1 = 0) : RSx K V N 11 d q s := BU.i11 h (by rw [gpa_fx hf]; exact Ev.fx2 hf)
theorem BU.i12x {K V : Nat → Int32} {N : Nat → Nat} {d : Nat} {q s : SG} (h : Ev K V N 2 d q s) (hf : ¬ s.2.2.1 = 0) : RSx K V N 12 d q s := BU.i12 h (by rw [gpa_fx hf]; exact Ev.fx2 hf)

theorem inw_X10_rest_10 : ∀ w ∈ wsX100, w ∈ wsX10_rest := fun _ h => List.mem_cons_of_mem _ (List.mem_append_right _ h)

theorem st_no {k z : Int32} (hz : z = cm k) (c : z = -1 ∨ ¬ z ≤ 11) : ¬ (1 ≤ k ∧ k ≤ 12) := by
  have h := cm_i k
  rw [hz, ← Int32.toInt_inj, Int32.le_iff_toInt_le] at c
  rw [Int32.le_iff_toInt_le, Int32.le_iff_toInt_le]
  have e1 : (1 : Int32).toInt = 1 := by decide
  have e12 : (12 : Int32).toInt = 12 := by decide
  have e11 : (11 : Int32).toInt = 11 := by decide
  have em : (-1 : Int32).toInt = -1 := by decide
  omega
theorem st_yes {k z : Int32} (hz : z = cm k) (c1 : ¬ z = -1) (c : z ≤ 11) : (1 ≤ k ∧ k ≤ 12) ∧ z = k - 1 := by
  have h := cm_i k
  have hr : 1 ≤ k ∧ k ≤ 12 := by
    rw [hz, ← Int32.toInt_inj] at c1
    rw [hz, Int32.le_iff_toInt_le] at c
    rw [Int32.le_iff_toInt_le, Int32.le_iff_toInt_le]
    have e1 : (1 : Int32).toInt = 1 := by decide
    have e12 : (12 : Int32).toInt = 12 := by decide
    have e11 : (11 : Int32).toInt = 11 := by decide
    have em : (-1 : Int32).toInt = -1 := by decide
    omega
  refine ⟨hr, ?_⟩
  rw [hz]
  unfold cm
  rw [if_pos hr]
theorem MI.st1 {tt : Nat → Int32} {ln d : Nat} {r : SG} {x22 x23 x24 y z : Int32} (h : MI tt ln r x22 x23 x24) (hn : ¬ (1 ≤ Kp tt ln r.1 ∧ Kp tt ln r.1 ≤ 12)) (hy : y = 1) (hz : z = nI r.1) : ∃ rn : SG, SXx (Kp tt ln) (Vp tt ln) (nq tt ln) d r rn ∧ MO rn y z :=
  ⟨gfl 1 r, Or.inr ⟨hn, rfl⟩, hy, hz, by show ¬ (1 : Int32) = 0; decide, by rw [hy]; decide⟩
theorem MI.st2 {tt : Nat → Int32} {ln d : Nat} {r : SG} {x22 x23 x24 y z n36 : Int32} (h : MI tt ln r x22 x23 x24) (hn : 1 ≤ Kp tt ln r.1 ∧ Kp tt ln r.1 ≤ 12) (h36 : n36 = nI r.2.1) (hr : r.2.1 ≤ 300) (c : n36 = 300) (hy : y = 2) (hz : z = nI r.1) : ∃ rn : SG, SXx (Kp tt ln) (Vp tt ln) (nq tt ln) d r rn ∧ MO rn y z := by
  have h3 : 300 ≤ r.2.1 := by
    have c : nI r.2.1 = nI 300 := h36.symm.trans c
    rw [nI_eq (by omega) (by omega)] at c
    omega
  refine ⟨grf 2 r, Or.inl ⟨hn, Ev.full h3⟩, ?_⟩
  have e : grf 2 r = gfl 2 r := if_pos h.2.1
  rw [e]
  exact ⟨hy, hz, by show ¬ (2 : Int32) = 0; decide, by rw [hy]; decide⟩
theorem MI.gad {tt : Nat → Int32} {ln : Nat} {r : SG} {x22 x23 x24 y : Int32} (h : MI tt ln r x22 x23 x24) (hq : r.1 < ln) (hy : y = nI (nx tt ln r.1)) : MI tt ln (gad (nq tt ln) r) y x23 x24 := by
  have h2 := h.pass (c := Kp tt ln r.1) rfl hq hy
  have e : gpa (Kp tt ln) (nq tt ln) (Kp tt ln r.1) r = (nq tt ln r.1, r.2) := by
    unfold gpa
    rw [if_pos h.2.1, if_pos rfl]
  rw [e] at h2
  exact h2
theorem n36_lt {n36 z : Int32} {n : Nat} (h : n36 = nI n) (hn : n ≤ 300) (c : ¬ n36 = 300) (hz : z = n36 + 1) : ¬ 300 ≤ n ∧ z = nI (n + 1) := by
  have h3 : ¬ n = 300 := fun e => c (by rw [h, e]; rfl)
  exact ⟨by omega, by rw [hz, h]; exact nI_1 n⟩
theorem PN.n300 {n : Int32} {dp : Nat → Nat} {kd on inr oth nx : Nat → Int32} {m : Nat} (h : PN n dp kd on inr oth nx) (he : n = nI m) (hm : m < 2147483648) : m ≤ 300 := by
  have h1 := h.2.1
  rw [he, nI_toInt hm] at h1
  omega

theorem inw_X10_step_10 : ∀ w ∈ wsX100, w ∈ wsX10_step := fun _ h => List.mem_cons_of_mem _ (List.mem_append_right _ h)

section SST
variable {tt : Nat → Int32} {ln d : Nat} {q q1 rn : SG} {x22 x23 x24 y z c : Int32}
theorem SXx.n3 {K V : Nat → Int32} {N : Nat → Nat} (h : SXx K V N d q rn) (hn : q.2.1 ≤ 300) : rn.2.1 ≤ 300 := by
  rcases h with ⟨-, h⟩ | ⟨-, rfl⟩
  · exact h.nd.2.2 hn
  · exact hn
/-- a step fails, or none stands here -/
theorem ST.no (h : MI tt ln q1 x22 x23 x24) (hall : ∀ r : SG, Ev (Kp tt ln) (Vp tt ln) (nq tt ln) 0 d q1 r → Ev (Kp tt ln) (Vp tt ln) (nq tt ln) 0 d q r) (hc : ¬ Kp tt ln q1.1 = c) (hs : SXx (Kp tt ln) (Vp tt ln) (nq tt ln) d q1 rn) (hm : MO rn y z) : ∃ rn : SG, ST (Kp tt ln) (Vp tt ln) (nq tt ln) d c q rn ∧ MO rn y z := by
  rcases hs with ⟨h1, h2⟩ | ⟨h1, rfl⟩
  · refine ⟨rn, ⟨rn, hall _ (Ev.go ⟨h.2.1, h1⟩ h2 (Ev.fx0 hm.2.2.1)), (gpa_fx hm.2.2.1).symm⟩, hm⟩
  · refine ⟨gfl 1 q1, ⟨q1, hall _ (Ev.stop fun g => h1 g.2), ?_⟩, hm⟩
    unfold gpa
    rw [if_pos h.2.1, if_neg hc]
theorem ST.go (h : MI tt ln q1 x22 x23 x24) (hall : ∀ r : SG, Ev (Kp tt ln) (Vp tt ln) (nq tt ln) 0 d q1 r → Ev (Kp tt ln) (Vp tt ln) (nq tt ln) 0 d q r) (hs : SXx (Kp tt ln) (Vp tt ln) (nq tt ln) d q1 rn) (hm : rn.2.2.1 = 0) : ∀ r : SG, Ev (Kp tt ln) (Vp tt ln) (nq tt ln) 0 d rn r → Ev (Kp tt ln) (Vp tt ln) (nq tt ln) 0 d q r := by
  rcases hs with ⟨h1, h2⟩ | ⟨h1, rfl⟩
  · exact fun r hr => hall _ (Ev.go ⟨h.2.1, h1⟩ h2 hr)
  · exact absurd (show (1 : Int32) = 0 from hm) (by decide)
theorem ST.end0 (h : MI tt ln q1 x22 x23 x24) (hall : ∀ r : SG, Ev (Kp tt ln) (Vp tt ln) (nq tt ln) 0 d q1 r → Ev (Kp tt ln) (Vp tt ln) (nq tt ln) 0 d q r) (hc : ln ≤ q1.1) : ST (Kp tt ln) (Vp tt ln) (nq tt ln) d 0 q (gpa (Kp tt ln) (nq tt ln) 0 q1) ∧ MI tt ln (gpa (Kp tt ln) (nq tt ln) 0 q1) x22 x23 x24 := by
  have hk : Kp tt ln q1.1 = 0 := Kp_0.mpr hc
  refine ⟨⟨q1, hall _ (Ev.stop fun g => absurd (hk ▸ g.2) (by decide)), rfl⟩, ?_⟩
  have e : gpa (Kp tt ln) (nq tt ln) 0 q1 = (q1.1, q1.2) := by
    unfold gpa nq
    rw [if_pos h.2.1, if_pos hk, if_neg (by omega)]
  rw [e]
  exact h
end SST

theorem inw_X10_steps_10 : ∀ w ∈ wsX100, w ∈ wsX10_steps := fun _ h => List.mem_cons_of_mem _ (List.mem_append_right _ h)

