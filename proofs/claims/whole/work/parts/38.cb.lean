/-! what every call keeps of the state -/
noncomputable def GI (H : Int) (s : AS) : Prop := RG H s ∧ FRE s ∧ H01 (s.2 10)
section GIS
variable {H H2 : Int} {s : AS} {v n w c m l r k d : Int32}
theorem GI.mo (h : GI H s) (hH : H ≤ H2) : GI H2 s := ⟨⟨h.1.1, h.1.2.1, h.1.2.2.1, Int.le_trans h.1.2.2.2 hH⟩, h.2⟩
/-- the run's own numbers made harmless -/
noncomputable def z40 (s : AS) : AS := (va_up (va_up s.1 39 1) 40 0, s.2)
theorem RG.iv (h : RG H s) : IV H (z40 s) := by
  have c0 : (0 : Int32).toInt = 0 := by decide
  have c1 : (1 : Int32).toInt = 1 := by decide
  refine ⟨h.1, h.2.1, h.2.2.1, ?_, ?_, ?_, ?_⟩
  · show (s.1 1).toInt ≤ H + (0 : Int32).toInt
    have := h.2.2.2
    omega
  · show 0 ≤ (0 : Int32).toInt
    omega
  · show (0 : Int32).toInt ≤ (1 : Int32).toInt
    omega
  · show (1 : Int32).toInt ≤ 5000
    omega
theorem FRE.same {s' : AS} (h : FRE s) (h12 : s'.1 12 = s.1 12) (hr : ∀ j : Nat, (j = 14 ∨ j = 15 ∨ j = 16 ∨ j = 17 ∨ j = 18) → s'.2 j = s.2 j) : FRE s' := fun k h1 h2 => by
  rw [h12] at h1
  rw [hr 14 (Or.inl rfl), hr 15 (Or.inr (Or.inl rfl)), hr 16 (Or.inr (Or.inr (Or.inl rfl))), hr 17 (Or.inr (Or.inr (Or.inr (Or.inl rfl)))), hr 18 (Or.inr (Or.inr (Or.inr (Or.inr rfl))))]
  exact h k h1 h2
theorem FRE.fc {s' : AS} {q : Nat} (h : FRE s) (hf : FC q s s') (hq : (q : Int) < (s.1 12).toInt) (h12 : s'.1 12 = s.1 12) (h16 : ∀ j : Nat, j ≠ q → s'.2 16 j = s.2 16 j) : FRE s' := fun k h1 h2 => by
  rw [h12] at h1
  have hk : k ≠ q := by omega
  rw [hf 14 k (Or.inl rfl) hk, hf 15 k (Or.inr (Or.inl rfl)) hk, h16 k hk, hf 17 k (Or.inr (Or.inr (Or.inl rfl))) hk, hf 18 k (Or.inr (Or.inr (Or.inr rfl))) hk]
  exact h k h1 h2
theorem GI.ch (h : GI H s) : GI H (chG v n s).2.2 := by
  unfold chG
  split
  · rename_i hv
    split
    · exact h
    · rename_i hn
      obtain ⟨⟨h1, h2, h3, h4⟩, h5, h6⟩ := h
      have hv6 := (nI_inj6 hv).2
      refine ⟨⟨fun j hj => ⟨?_, (h1 j hj).2⟩, h2, h3, h4⟩, h5, h6⟩
      show 0 ≤ (upd (s.2 4) v.toNatClampNeg (s.2 4 v.toNatClampNeg + n) j).toInt ∧ (upd (s.2 4) v.toNatClampNeg (s.2 4 v.toNatClampNeg + n) j).toInt ≤ 1000000
      by_cases e : j = v.toNatClampNeg
      · rw [show upd (s.2 4) v.toNatClampNeg (s.2 4 v.toNatClampNeg + n) j = s.2 4 v.toNatClampNeg + n from if_pos e]
        have g := (h1 _ hv6).1
        have n1 : ¬ n < 1 := fun e => hn (Or.inl e)
        have n2 : ¬ 1000000 - s.2 4 v.toNatClampNeg < n := fun e => hn (Or.inr e)
        rw [Int32.lt_iff_toInt_lt] at n1 n2
        have c1 : (1 : Int32).toInt = 1 := by decide
        have cm : (1000000 : Int32).toInt = 1000000 := by decide
        rw [su_i (by omega) (by omega), cm] at n2
        rw [ad_i (by omega) (by omega)]
        omega
      · rw [show upd (s.2 4) v.toNatClampNeg (s.2 4 v.toNatClampNeg + n) j = s.2 4 j from if_neg e]
        exact (h1 j hj).1
  · exact h
theorem le_1000 (h : 1 ≤ n ∧ n ≤ 1000) : 1 ≤ n.toInt ∧ n.toInt ≤ 1000 := by
  rw [Int32.le_iff_toInt_le, Int32.le_iff_toInt_le] at h
  have c1 : (1 : Int32).toInt = 1 := by decide
  have c2 : (1000 : Int32).toInt = 1000 := by decide
  omega
theorem le_20 (h : 1 ≤ n ∧ n ≤ 20) : 1 ≤ n.toInt ∧ n.toInt ≤ 20 := by
  rw [Int32.le_iff_toInt_le, Int32.le_iff_toInt_le] at h
  have c1 : (1 : Int32).toInt = 1 := by decide
  have c2 : (20 : Int32).toInt = 20 := by decide
  omega
theorem GI.fd (h : GI H s) : GI H (fdS v n s).2.2 := by
  unfold fdS
  split
  · rename_i hv
    split
    · rename_i hn
      have q := h.1.iv.fe (nI_inj6 hv).2 (le_1000 hn)
      exact ⟨⟨q.1, q.2.1, h.1.2.2⟩, h.2.1.same rfl (fun j hj => by rcases hj with rfl | rfl | rfl | rfl | rfl <;> rfl), h.2.2⟩
    · exact h
  · exact h
theorem GI.lm (h : GI H s) : GI H (lmS v s).2.2 := by
  unfold lmS
  split
  · rename_i hv
    have q := h.1.iv.lm (nI_inj6 hv).2
    exact ⟨⟨q.1, q.2.1, h.1.2.2⟩, h.2.1.same rfl (fun j hj => by rcases hj with rfl | rfl | rfl | rfl | rfl <;> rfl), h.2.2⟩
  · exact h
theorem GI.hr (h : GI H s) (hH : H ≤ 9000000) : GI (H + 10000) (hrS n s).2.2 := by
  unfold hrS
  split
  · rename_i hn
    rw [Int32.le_iff_toInt_le, Int32.le_iff_toInt_le] at hn
    have c0 : (0 : Int32).toInt = 0 := by decide
    have c1 : (10000 : Int32).toInt = 10000 := by decide
    have hc := clamp_i (x := n) (by omega)
    obtain ⟨⟨h1, h2, h3, h4⟩, h5, h6⟩ := h
    obtain ⟨a1, a2, a3⟩ := hN_1 n.toNatClampNeg s
    have a3 := a3 h3 (by omega)
    have e : ∀ j : Nat, 12 ≤ j → (hN n.toNatClampNeg s).2 j = s.2 j := fun j hj => a2 j (by omega) (by omega) (by omega) (by omega) (by omega)
    refine ⟨⟨h1.hN _, ?_, ?_, ?_⟩, h5.same (a1 12 (by decide)) (fun j hj => e j (by omega)), hN_01 h6 _⟩
    · show RC (hN n.toNatClampNeg s)
      unfold RC
      rw [a1 12 (by decide), e 13 (by decide), e 14 (by decide), e 15 (by decide), e 16 (by decide)]
      exact h2
    · show 0 ≤ ((hN n.toNatClampNeg s).1 1).toInt
      omega
    · show ((hN n.toNatClampNeg s).1 1).toInt ≤ H + 10000
      omega
  · exact h.mo (by omega)
theorem GI.dp (h : GI H s) : GI H (dpS c v m s).2.2 := by
  unfold dpS
  split
  · rename_i hc
    split
    · rename_i hv
      split
      · rename_i hm
        split
        · exact h
        · have hcc := (inC_c hc).2
          have q := h.1.iv.dp (c := c.toNatClampNeg) (nI_inj6 hv).2 hcc (le_20 hm)
          refine ⟨⟨q.1, q.2.1, h.1.2.2⟩, h.2.1.fc (FC.di (s := s) (c := c.toNatClampNeg) (v := v.toNatClampNeg) (m := m) (n := mvA s c.toNatClampNeg v.toNatClampNeg m)) hcc rfl (fun _ _ => rfl), ?_⟩
          exact H01.u1 h.2.2
      · exact h
    · exact h
  · exact h
theorem FC.dy {s : AS} {c : Nat} : FC c s (dyS s c) := fun j k hj hk => by
  rcases hj with rfl | rfl | rfl | rfl
  · exact if_neg hk
  · exact if_neg hk
  · rfl
  · rfl
theorem GI.tr (h : GI H s) : GI H (trS c w s).2.2 := by
  unfold trS
  split
  · rename_i hc
    have hcc := (inC_c hc).2
    split
    · split
      · exact h
      · split
        · have q := h.1.iv.ai (c := c.toNatClampNeg)
          exact ⟨⟨q.1, q.2.1, h.1.2.2⟩, h.2.1.fc FC.ai hcc rfl (fun _ _ => rfl), h.2.2⟩
        · split
          · have q := h.1.iv.wa (c := c.toNatClampNeg)
            exact ⟨⟨q.1, q.2.1, h.1.2.2⟩, h.2.1.fc FC.wa hcc rfl (fun _ _ => rfl), h.2.2⟩
          · have q := h.1.iv.ai (c := c.toNatClampNeg)
            refine ⟨⟨q.1, ⟨h.1.2.1.1, fun j hj => ?_⟩, h.1.2.2⟩, h.2.1.fc (FC.dy (s := s)) hcc rfl (fun j hj => if_neg hj), h.2.2⟩
            obtain ⟨q1, q2, q3, q4, q5⟩ := q.2.1.2 j hj
            refine ⟨q1, q2, q3, q4, ?_⟩
            show -1 ≤ (upd (s.2 16) c.toNatClampNeg (s.1 1 / 24) j).toInt
            by_cases e : j = c.toNatClampNeg
            · rw [show upd (s.2 16) c.toNatClampNeg (s.1 1 / 24) j = s.1 1 / 24 from if_pos e, dv_i h.1.2.2.1 (by decide)]
              have c24 : (24 : Int32).toInt = 24 := by decide
              have := h.1.2.2.1
              rw [c24]
              omega
            · rw [show upd (s.2 16) c.toNatClampNeg (s.1 1 / 24) j = s.2 16 j from if_neg e]
              exact q5
    · exact h
  · exact h
theorem GI.cl (h : GI H s) : GI H (clS w s).2.2 := by
  unfold clS
  split
  · exact h
  · rename_i hn
    obtain ⟨⟨h1, ⟨h2, h2b⟩, h3, h4⟩, h5, h6⟩ := h
    have n0 : ¬ s.1 12 = 30 := fun e => hn (Or.inl e)
    have n1 : ¬ w < 1 := fun e => hn (Or.inr (Or.inl e))
    have n2 : ¬ 50 < w := fun e => hn (Or.inr (Or.inr e))
    rw [← Int32.toInt_inj] at n0
    rw [Int32.lt_iff_toInt_lt] at n1 n2
    have c1 : (1 : Int32).toInt = 1 := by decide
    have c30 : (30 : Int32).toInt = 30 := by decide
    have c50 : (50 : Int32).toInt = 50 := by decide
    have c0 : (0 : Int32).toInt = 0 := by decide
    have cm : (-1 : Int32).toInt = -1 := by decide
    have e12 : (s.1 12 + 1).toInt = (s.1 12).toInt + 1 := by rw [ad_i (by omega) (by omega), c1]
    have hc := clamp_i (x := s.1 12) h2.1
    refine ⟨⟨h1, ⟨?_, fun k hk => ?_⟩, h3, h4⟩, fun k hk1 hk2 => ?_, h6⟩
    · show 0 ≤ (s.1 12 + 1).toInt ∧ (s.1 12 + 1).toInt ≤ 30
      omega
    · have hk : (k : Int) < (s.1 12 + 1).toInt := hk
      show (1 ≤ (upd (s.2 13) (s.1 12).toNatClampNeg w k).toInt ∧ (upd (s.2 13) (s.1 12).toNatClampNeg w k).toInt ≤ 50) ∧ 0 ≤ (s.2 14 k).toInt ∧ 0 ≤ (s.2 15 k).toInt ∧ (s.2 14 k).toInt + (s.2 15 k).toInt ≤ 200 * (upd (s.2 13) (s.1 12).toNatClampNeg w k).toInt ∧ -1 ≤ (s.2 16 k).toInt
      by_cases e : k = (s.1 12).toNatClampNeg
      · obtain ⟨g1, g2, g3, -, -⟩ := h5 k (by omega) (by omega)
        rw [show upd (s.2 13) (s.1 12).toNatClampNeg w k = w from if_pos e, g1, g2, g3]
        omega
      · rw [show upd (s.2 13) (s.1 12).toNatClampNeg w k = s.2 13 k from if_neg e]
        exact h2b k (by omega)
    · have hk1 : (s.1 12 + 1).toInt ≤ k := hk1
      exact h5 k (by omega) hk2
theorem GI.rn {o : OP} {V : Nat → Prop} (h : GI H s) (hH : H ≤ 9000000) (ho : rnR r k l s o) (hN : NV V s) (hl : rnN r k l s ∨ lkV V (fiX s r)) (h01 : H01 (o.2.2.2 10)) : GI (H + 5000) o.2.2 := by
  rcases ho with ⟨-, rfl⟩ | ⟨-, -, rfl⟩ | ⟨hc, hn, u, hu, rfl⟩
  · exact h.mo (by omega)
  · exact h.mo (by omega)
  · have hl := hl.resolve_left hn
    have hcc := (inC_c hc).2
    have l1 : ¬ l < 1 := fun e => hn (Or.inr (Or.inr (Or.inl e)))
    have l2 : ¬ 5000 < l := fun e => hn (Or.inr (Or.inr (Or.inr (Or.inl e))))
    rw [Int32.lt_iff_toInt_lt] at l1 l2
    have c1 : (1 : Int32).toInt = 1 := by decide
    have c0 : (0 : Int32).toInt = 0 := by decide
    have c5 : (5000 : Int32).toInt = 5000 := by decide
    obtain ⟨⟨h1, h2, h3, h4⟩, h5, h6⟩ := h
    have hI : IV H (rs0 l s) := by
      refine ⟨h1, h2, h3, ?_, ?_, ?_, ?_⟩
      · show (s.1 1).toInt ≤ H + (0 : Int32).toInt
        omega
      · show 0 ≤ (0 : Int32).toInt
        omega
      · show (0 : Int32).toInt ≤ l.toInt
        omega
      · show l.toInt ≤ 5000
        omega
    have hI2 := hu.inv (V := V) (by omega) hI (hN.go (fun _ _ => rfl)) hcc (fun _ => hl) (fun e => absurd rfl e)
    obtain ⟨⟨q1, q2, q3, q4, q5, q6, q7⟩, hx, -, -⟩ := hI2
    refine ⟨⟨q1, q2, q3, ?_⟩, h5.fc (s' := (rfi u)) (fun j k hj hk => (hu.fc j k hj hk)) hcc hx.2.2.1 (fun j _ => by show u.2.2 16 j = s.2 16 j; rw [hx.1 16 (by decide) (by decide) (by decide)]; rfl), h01⟩
    show (u.2.1 1).toInt ≤ H + 5000
    omega
end GIS
