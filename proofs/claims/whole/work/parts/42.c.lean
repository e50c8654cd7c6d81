/-! the planner's trial vats and trial cloth hold the rows -/
noncomputable def TSp (f : Nat → va_E) (tv : Nat → Nat) (tc c : Nat) (g fo mi st w lo fa : Nat → Int32) : Prop := (∀ k : Nat, k < 6 → rd f (tv k) 1 = .int (g k) ∧ rd f (tv k) 2 = .int (fo k) ∧ rd f (tv k) 3 = .int (mi k) ∧ rd f (tv k) 4 = .int (st k)) ∧ rd f tc 1 = .int (w c) ∧ rd f tc 2 = .int (lo c) ∧ rd f tc 3 = .int (fa c)
section TSS
variable {L : List Nat} {f f2 : Nat → va_E} {tv : Nat → Nat} {tc c q v k : Nat} {g fo mi st w lo fa g2 fo2 mi2 st2 lo2 fa2 : Nat → Int32} {z zs lw hg m : Int32}
theorem TSp.put (h : TSp f tv tc c g fo mi st w lo fa) (hinj : ∀ i j : Nat, i < 6 → j < 6 → tv i = tv j → i = j) (hq : q < 6) (hvq : v = tv q) (hm : ∀ k : Nat, k < 6 → tv k ∈ L ∧ sh (f (tv k)) = (0, 7, 0)) (hO : OF 7 [v] L f f2) (e : ∀ k : Nat, k ≠ q → g2 k = g k ∧ fo2 k = fo k ∧ mi2 k = mi k ∧ st2 k = st k) (v1 : rd f2 v 1 = .int (g2 q)) (v2 : rd f2 v 2 = .int (fo2 q)) (v3 : rd f2 v 3 = .int (mi2 q)) (v4 : rd f2 v 4 = .int (st2 q)) (t1 : rd f2 tc 1 = .int (w c)) (t2 : rd f2 tc 2 = .int (lo2 c)) (t3 : rd f2 tc 3 = .int (fa2 c)) : TSp f2 tv tc c g2 fo2 mi2 st2 w lo2 fa2 := by
  subst hvq
  refine ⟨fun k hk => ?_, t1, t2, t3⟩
  by_cases ek : k = q
  · subst ek; exact ⟨v1, v2, v3, v4⟩
  · obtain ⟨e1, e2, e3, e4⟩ := e k ek
    obtain ⟨h1, h2, h3, h4⟩ := h.1 k hk
    have hn : tv k ∉ [tv q] := fun m => ek (hinj k q hk hq (List.mem_singleton.mp m))
    have r := hO _ (hm k hk).1 (hm k hk).2 hn
    rw [e1, e2, e3, e4]
    exact ⟨(r 1).trans h1, (r 2).trans h2, (r 3).trans h3, (r 4).trans h4⟩
theorem TSp.go {cs : List (Nat × Nat)} (h : TSp f tv tc c g fo mi st w lo fa) (hm : ∀ k : Nat, k < 6 → tv k ∈ L ∧ sh (f (tv k)) = (0, 7, 0)) (ht : tc ∈ L ∧ sh (f tc) = (0, 0, 0)) (hF : Fr cs L f f2) (hc : ∀ c ∈ cs, c.1 ≠ 0 ∧ c.1 ≠ 7) : TSp f2 tv tc c g fo mi st w lo fa := by
  have r7 : ∀ k : Nat, k < 6 → ∀ j : Nat, rd f2 (tv k) j = rd f (tv k) j := fun k hk j => hF.1 _ (hm k hk).1 7 (hm k hk).2 j (fun g => (hc _ g).2 rfl)
  have r0 : ∀ j : Nat, rd f2 tc j = rd f tc j := fun j => hF.1 tc ht.1 0 ht.2 j (fun g => (hc _ g).1 rfl)
  refine ⟨fun k hk => ?_, (r0 1).trans h.2.1, (r0 2).trans h.2.2.1, (r0 3).trans h.2.2.2⟩
  obtain ⟨h1, h2, h3, h4⟩ := h.1 k hk
  exact ⟨(r7 k hk 1).trans h1, (r7 k hk 2).trans h2, (r7 k hk 3).trans h3, (r7 k hk 4).trans h4⟩
theorem upd_nq {f : Nat → Int32} {x : Int32} (h : k ≠ q) : upd f q x k = f k := if_neg h
theorem upd_q {f : Nat → Int32} {x : Int32} : upd f q x q = x := if_pos rfl
theorem we_1 (h : IVp g w lo fa c) : 1 ≤ 100 + w c := by
  rw [Int32.le_iff_toInt_le]
  have c1 : (1 : Int32).toInt = 1 := by decide
  have c100 : (100 : Int32).toInt = 100 := by decide
  rw [ad_i (by have := h.2.1; omega) (by have := h.2.1; omega), c1, c100]
  have := h.2.1
  omega
/-- what givesTo says of a dip -/
theorem gd_a (h : IVp g w lo fa c) (hq : q < 6) (hm : M4 m) (e : z = if st q = 2 then 0 else mvP g st w lo fa c q m) (hz0 : z < 1) : ¬ GDr k g fo mi st w lo fa c lw hg q m := fun g9 => by
  rw [if_neg g9.1] at e
  have h1 := (h.mv (st := st) hq hm).1
  rw [← e] at h1
  have hz : ¬ 1 ≤ z := fun g => by
    rw [Int32.lt_iff_toInt_lt] at hz0
    rw [Int32.le_iff_toInt_le] at g
    omega
  exact g9.2.1 (e.symm.trans (lt1_0 h1 hz))
theorem gd_z (e : z = if st q = 2 then 0 else mvP g st w lo fa c q m) (hz0 : ¬ z < 1) : ¬ st q = 2 ∧ z = mvP g st w lo fa c q m ∧ ¬ mvP g st w lo fa c q m = 0 := by
  have hz : 1 ≤ z := nlt_le hz0
  by_cases c2 : st q = 2
  · rw [if_pos c2] at e
    rw [e] at hz
    exact absurd hz (by decide)
  · rw [if_neg c2] at e
    exact ⟨c2, e, fun e0 => ge1_n hz (e.trans e0)⟩
theorem shC_d {x : Int32} (hw : 1 ≤ (w c).toInt) : shC (w c) x = x / w c := by
  unfold shC
  rw [if_pos]
  rw [Int32.le_iff_toInt_le]
  have c1 : (1 : Int32).toInt = 1 := by decide
  omega
/-- above the span nothing leads there -/
theorem gd_h (h : IVp g w lo fa c) (hq : q < 6) (hm : M4 m) (e : zs = shC (w c) (fa c + ((lo c + mvP g st w lo fa c q m) - (lo c + mvP g st w lo fa c q m) / 8))) (hz : hg < zs) : ¬ GDr k g fo mi st w lo fa c lw hg q m := fun g9 => by
  obtain ⟨i1, -⟩ := h.th (st := st) hq hm
  have := ldR_hg _ _ _ _ _ _ _ _ _ i1 g9.2.2
  rw [show upd fa c (fa c + ((lo c + mvP g st w lo fa c q m) - (lo c + mvP g st w lo fa c q m) / 8)) c = fa c + ((lo c + mvP g st w lo fa c q m) - (lo c + mvP g st w lo fa c q m) / 8) from if_pos rfl, ← shC_d (x := fa c + ((lo c + mvP g st w lo fa c q m) - (lo c + mvP g st w lo fa c q m) / 8)) h.2.1.1, ← e] at this
  rw [Int32.lt_iff_toInt_lt] at hz
  omega
theorem kz_of {pl wa : Int32} {d k : Nat} (hd : pl = nI d) (hw : wa = nI (d + k)) (h3 : d + k ≤ 3) (h : wa ≤ pl) : k = 0 := by
  rw [hd, hw, nI_leI (by omega) (by omega)] at h
  omega
theorem k1_of {pl wa : Int32} {d k : Nat} (hd : pl = nI d) (hw : wa = nI (d + k)) (h3 : d + k ≤ 3) (h : ¬ wa ≤ pl) : ∃ k1 : Nat, k = k1 + 1 := by
  rw [hd, hw, nI_leI (by omega) (by omega)] at h
  exact ⟨k - 1, by omega⟩
/-- the first vats are copied -/
noncomputable def CPv (f : Nat → va_E) (tv : Nat → Nat) (g fo mi st : Nat → Int32) (q : Nat) : Prop := ∀ k : Nat, k < q → rd f (tv k) 1 = .int (g k) ∧ rd f (tv k) 2 = .int (fo k) ∧ rd f (tv k) 3 = .int (mi k) ∧ rd f (tv k) 4 = .int (st k)
theorem CPv.o : CPv f tv g fo mi st 0 := fun _ h => absurd h (Nat.not_lt_zero _)
theorem CPv.nx {L1 L2 : List Nat} {f1 f3 : Nat → va_E} {cs : List (Nat × Nat)} {b : Nat} {y1 y2 y3 y4 : Int32} (h : CPv f1 tv g fo mi st q) (hinj : ∀ i j : Nat, i < 6 → j < 6 → tv i = tv j → i = j) (hq : q < 6) (hm : ∀ k : Nat, k < 6 → tv k ∈ L1 ∧ sh (f1 (tv k)) = (0, 7, 0)) (hF : Fr cs L1 f1 f2) (hc : ∀ c ∈ cs, c.1 ≠ 7) (hE : Ext L1 f1 L2 f2) (hO : OF 7 [b] L2 f2 f3) (hb : b = tv q) (v1 : rd f3 b 1 = .int y1) (v2 : rd f3 b 2 = .int y2) (v3 : rd f3 b 3 = .int y3) (v4 : rd f3 b 4 = .int y4) (e1 : y1 = g q) (e2 : y2 = fo q) (e3 : y3 = mi q) (e4 : y4 = st q) : CPv f3 tv g fo mi st (q + 1) := fun k hk => by
  subst hb
  by_cases e : k = q
  · subst e
    rw [e1] at v1
    rw [e2] at v2
    rw [e3] at v3
    rw [e4] at v4
    exact ⟨v1, v2, v3, v4⟩
  · have hk6 : k < 6 := by omega
    obtain ⟨h1, h2, h3, h4⟩ := h k (by omega)
    have m := hm k hk6
    have r : ∀ j : Nat, rd f3 (tv k) j = rd f1 (tv k) j := fun j => (hO _ (hE _ m.1).1 ((hE _ m.1).2.trans m.2) (fun g => e (hinj k q hk6 hq (List.mem_singleton.mp g))) j).trans (hF.1 _ m.1 7 m.2 j (fun g => hc _ g rfl))
    exact ⟨(r 1).trans h1, (r 2).trans h2, (r 3).trans h3, (r 4).trans h4⟩
theorem TSp.mk9 {cs : List (Nat × Nat)} {y1 y2 y3 : Int32} (h : CPv f tv g fo mi st 6) (hm : ∀ k : Nat, k < 6 → tv k ∈ L ∧ sh (f (tv k)) = (0, 7, 0)) (hF : Fr cs L f f2) (hc : ∀ c ∈ cs, c.1 ≠ 7) (t1 : rd f2 tc 1 = .int y1) (t2 : rd f2 tc 2 = .int y2) (t3 : rd f2 tc 3 = .int y3) (e1 : y1 = w c) (e2 : y2 = lo c) (e3 : y3 = fa c) : TSp f2 tv tc c g fo mi st w lo fa := by
  subst e1; subst e2; subst e3
  refine ⟨fun k hk => ?_, t1, t2, t3⟩
  obtain ⟨h1, h2, h3, h4⟩ := h k hk
  have r : ∀ j : Nat, rd f2 (tv k) j = rd f (tv k) j := fun j => hF.1 _ (hm k hk).1 7 (hm k hk).2 j (fun g => hc _ g rfl)
  exact ⟨(r 1).trans h1, (r 2).trans h2, (r 3).trans h3, (r 4).trans h4⟩
/-- what fewest answers -/
noncomputable def FWr (g fo mi st w lo fa : Nat → Int32) (c : Nat) (lw hg mo : Int32) (r : Option Value) : Prop := (∃ n : Nat, n ≤ 3 ∧ (n : Int) ≤ mo.toInt ∧ ldR n g fo mi st w lo fa c lw hg ∧ (∀ k : Nat, k < n → ¬ ldR k g fo mi st w lo fa c lw hg) ∧ r = some (.int (nI n))) ∨ ((∀ n : Nat, n ≤ 3 → (n : Int) ≤ mo.toInt → ¬ ldR n g fo mi st w lo fa c lw hg) ∧ r = some (.int (-1)))
theorem fw_q {ii : Int32} (h1 : ii = nI q) (h4 : q ≤ 4) (h : ¬ 3 < ii) : q ≤ 3 := by
  have h7 := nlt_i h
  rw [h1, nI_toInt (by omega)] at h7
  have c3 : (3 : Int32).toInt = 3 := by decide
  omega
theorem fw_no {ii mo : Int32} (h1 : ii = nI q) (h4 : q ≤ 4) (h : mo < ii ∨ 3 < ii) (h3 : ∀ k : Nat, k < q → ¬ ldR k g fo mi st w lo fa c lw hg) : FWr g fo mi st w lo fa c lw hg mo (some (.int (-1))) := Or.inr ⟨fun n h8 h9 => h3 n (by
  have c3 : (3 : Int32).toInt = 3 := by decide
  rcases h with h | h
  · have h7 := lt_i h
    rw [h1, nI_toInt (by omega)] at h7
    omega
  · have h7 := lt_i h
    rw [h1, nI_toInt (by omega)] at h7
    omega), rfl⟩
theorem fw_yes {ii mo : Int32} (h1 : ii = nI q) (hq : q ≤ 3) (h : ¬ mo < ii) (h2 : ldR q g fo mi st w lo fa c lw hg) (h3 : ∀ k : Nat, k < q → ¬ ldR k g fo mi st w lo fa c lw hg) : FWr g fo mi st w lo fa c lw hg mo (some (.int ii)) := Or.inl ⟨q, hq, by
  have h7 := nlt_i h
  rw [h1, nI_toInt (by omega)] at h7
  omega, h2, h3, by rw [h1]⟩
theorem fw_nx {ii : Int32} (h1 : ii = nI q) (hq : q ≤ 3) (h2 : ¬ ldR q g fo mi st w lo fa c lw hg) (h3 : ∀ k : Nat, k < q → ¬ ldR k g fo mi st w lo fa c lw hg) : ∃ a : Nat, ii + 1 = nI a ∧ a ≤ 4 ∧ ∀ k : Nat, k < a → ¬ ldR k g fo mi st w lo fa c lw hg := ⟨q + 1, by rw [h1]; exact nI_1 q, by omega, fun k h9 => by
  by_cases e : k = q
  · rw [e]; exact h2
  · exact h3 k (by omega)⟩
end TSS
