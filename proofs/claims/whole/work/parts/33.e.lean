/-- what holds behind a run, or a part of it -/
noncomputable def OKR (B : Int) (s : AS) (u : Int32 × AS) : Prop := IV B u.2 ∧ FX s u.2 ∧ (0 ≤ u.1.toInt ∧ u.1.toInt ≤ 1000) ∧ (s.1 40).toInt ≤ (u.2.1 40).toInt
theorem OKR.tr {B : Int} {s s1 : AS} {u : Int32 × AS} (h2 : OKR B s1 u) (h : FX s s1) (hc : (s.1 40).toInt ≤ (s1.1 40).toInt) : OKR B s u := ⟨h2.1, h.tr h2.2.1, h2.2.2.1, Int.le_trans hc h2.2.2.2⟩
theorem co_le {B : Int} {s : AS} (h : IV B s) (hl : ¬ s.1 40 = s.1 39) : (s.1 40).toInt + 1 = ((coA s).1 40).toInt := by
  obtain ⟨-, -, -, -, h5, h6, h7⟩ := h
  have c1 : (1 : Int32).toInt = 1 := by decide
  show _ = (s.1 40 + 1).toInt
  rw [ad_i (by omega) (by omega), c1]
theorem h1_le {B : Int} {s : AS} (h : IV B s) : (s.1 40).toInt + 1 = ((h1A s).1 40).toInt := by
  obtain ⟨-, -, -, -, h5, h6, h7⟩ := h
  have c1 : (1 : Int32).toInt = 1 := by decide
  show _ = (s.1 40 + 1).toInt
  rw [ad_i (by omega) (by omega), c1]
theorem okc (e : Int32) (h : 0 ≤ e.toInt ∧ e.toInt ≤ 1000) : 0 ≤ e.toInt ∧ e.toInt ≤ 1000 := h
section RVI
variable {B : Int} {V : Nat → Prop}
theorem reA_inv (hB : B ≤ 10000000) : ∀ (n : Nat) (s : AS), IV B s → OKR B s (reA n s) := by
  intro n
  induction n with
  | zero => intro s h; exact ⟨h, FX.rf, okc 0 (by decide), Int.le_refl _⟩
  | succ n ih =>
    intro s h
    unfold reA
    by_cases c : s.1 40 = s.1 39
    · rw [if_pos c]; exact ⟨h, FX.rf, okc 1000 (by decide), Int.le_refl _⟩
    · rw [if_neg c]; exact (ih _ (h.h1 c hB)).tr FX.h1 (by have := h1_le h; omega)
theorem plA_inv {s : AS} {k c : Nat} (hB : B ≤ 10000000) (h : IV B s) (hk : NVk s k) (h7 : s.2 26 k < 7) (hc : (c : Int) < (s.1 12).toInt) : OKR B s (plA s k c) := by
  obtain ⟨n0, n1, n2, n3, n4, n5, n6⟩ := hk
  have v6 : (0 ≤ (s.2 27 k).toInt ∧ (s.2 27 k).toInt ≤ 5) → (s.2 27 k).toNatClampNeg < 6 := fun h => by
    have := clamp_i h.1
    omega
  unfold plA
  by_cases c0 : s.2 26 k = 0
  · rw [if_pos c0]
    unfold dpA
    split
    · exact ⟨h, FX.rf, okc 1 (by decide), Int.le_refl _⟩
    · split
      · exact ⟨h, FX.rf, okc 2 (by decide), Int.le_refl _⟩
      · exact ⟨h.dp (v6 (n1 (Or.inl c0))) hc (n2 c0), FX.dp, okc 0 (by decide), Int.le_refl _⟩
  rw [if_neg c0]
  by_cases c1 : s.2 26 k = 1
  · rw [if_pos c1]
    unfold arR
    split
    · exact ⟨h, FX.rf, okc 3 (by decide), Int.le_refl _⟩
    · exact ⟨h.ai, FX.ai, okc 0 (by decide), Int.le_refl _⟩
  rw [if_neg c1]
  by_cases c2 : s.2 26 k = 2
  · rw [if_pos c2]; exact ⟨h.wa, FX.wa, okc 0 (by decide), Int.le_refl _⟩
  rw [if_neg c2]
  by_cases c3 : s.2 26 k = 3
  · rw [if_pos c3]; exact reA_inv hB _ _ h
  rw [if_neg c3]
  by_cases c4 : s.2 26 k = 4
  · rw [if_pos c4]
    refine ⟨h.fe (v6 (n1 (Or.inr (Or.inl c4)))) (n3 c4), FX.fe, ⟨?_, ?_⟩, Int.le_refl _⟩
    · show 0 ≤ (if 1000 < s.2 5 (s.2 27 k).toNatClampNeg + s.2 28 k then (5 : Int32) else 0).toInt
      split <;> decide
    · show (if 1000 < s.2 5 (s.2 27 k).toNatClampNeg + s.2 28 k then (5 : Int32) else 0).toInt ≤ 1000
      split <;> decide
  rw [if_neg c4]
  by_cases c5 : s.2 26 k = 5
  · rw [if_pos c5]
    unfold lmR
    split
    · exact ⟨h.lm (v6 (n1 (Or.inr (Or.inr c5)))), FX.lm, okc 0 (by decide), Int.le_refl _⟩
    · exact ⟨h, FX.rf, okc 4 (by decide), Int.le_refl _⟩
  rw [if_neg c5]
  have c6 : s.2 26 k = 6 := by
    rw [Int32.lt_iff_toInt_lt] at h7
    rw [← Int32.toInt_inj] at c0 c1 c2 c3 c4 c5 ⊢
    have e0 : (0 : Int32).toInt = 0 := by decide
    have e1 : (1 : Int32).toInt = 1 := by decide
    have e2 : (2 : Int32).toInt = 2 := by decide
    have e3 : (3 : Int32).toInt = 3 := by decide
    have e4 : (4 : Int32).toInt = 4 := by decide
    have e5 : (5 : Int32).toInt = 5 := by decide
    have e6 : (6 : Int32).toInt = 6 := by decide
    have e7 : (7 : Int32).toInt = 7 := by decide
    omega
  have := n5 c6
  have e : (100 : Int32).toInt = 100 := by decide
  have e2 : (100 + s.2 27 k).toInt = 100 + (s.2 27 k).toInt := by rw [ad_i (by omega) (by omega), e]
  exact ⟨h, FX.rf, ⟨by show 0 ≤ (100 + s.2 27 k).toInt; omega, by show (100 + s.2 27 k).toInt ≤ 1000; omega⟩, Int.le_refl _⟩
/-- a link that may be gone along -/
noncomputable def lkV (V : Nat → Prop) (x : Int32) : Prop := x = -1 ∨ ∃ q : Nat, x = nI q ∧ V q ∧ q < 2700
theorem lkV.at {x : Int32} (h : lkV V x) (hx : ¬ x = -1) : V x.toNatClampNeg := by
  rcases h with h | ⟨q, h1, h2, h3⟩
  · exact absurd h hx
  · rw [h1, nI_clamp (by omega)]; exact h2
theorem rv_inv (hB : B ≤ 10000000) : ∀ (n m : Nat) (x : Int32) (k c : Nat) (s : AS) (u : Int32 × AS), rv n m x k c s = some u → IV B s → NV V s → (c : Int) < (s.1 12).toInt → (m = 0 → lkV V x) → (m ≠ 0 → V k) → OKR B s u := by
  intro n
  induction n with
  | zero => intro m x k c s u h; cases h
  | succ n ih =>
    intro m x k c s u h hI hN hc hl hv
    have rf : ∀ e : Int32, 0 ≤ e.toInt → e.toInt ≤ 1000 → OKR B s (e, s) := fun e h1 h2 => ⟨hI, FX.rf, ⟨h1, h2⟩, Int.le_refl _⟩
    have row : ∀ (y : Int32) (s1 : AS) (w : Int32 × AS), FX s s1 → (s.1 40).toInt ≤ (s1.1 40).toInt → IV B s1 → lkV V y → rv n 0 y 0 c s1 = some w → OKR B s w := fun y s1 w hf h0 h1 h2 h3 => (ih 0 y 0 c s1 w h3 h1 (hN.fx hf) (by rw [hf.2.2.1]; exact hc) (fun _ => h2) (fun e => absurd rfl e)).tr hf h0
    have lnk : ∀ (s1 : AS), FX s s1 → V k → ∀ j : Nat, (j = 31 ∨ j = 32 ∨ j = 33) → lkV V (s1.2 j k) := fun s1 hf hk j hj => (hN.fx hf k hk).2 j hj
    match m with
    | 0 =>
      unfold rv at h
      by_cases c1 : x = -1
      · rw [if_pos c1] at h; cases h; exact rf 0 (by decide) (by decide)
      rw [if_neg c1] at h
      obtain ⟨a, h1, h2⟩ := bindR_some h
      have hV := (hl rfl).at c1
      have q := ih 1 0 _ c s a h1 hI hN hc (fun e => absurd e (by decide)) (fun _ => hV)
      by_cases c2 : a.1 = 0
      · rw [if_pos c2] at h2
        exact row _ _ _ q.2.1 q.2.2.2 q.1 ((hN.fx q.2.1 _ hV).2 33 (Or.inr (Or.inr rfl))) h2
      · rw [if_neg c2] at h2; cases h2; exact q
    | 1 =>
      have hk := hv (by decide)
      unfold rv at h
      by_cases c1 : s.1 40 = s.1 39
      · rw [if_pos c1] at h; cases h; exact rf 1000 (by decide) (by decide)
      rw [if_neg c1] at h
      have hI2 := hI.co c1
      have hco : (s.1 40).toInt ≤ ((coA s).1 40).toInt := by have := co_le hI c1; omega
      have hN2 := hN.fx (FX.co (s := s))
      by_cases c2 : s.2 26 k < 7
      · rw [if_pos c2] at h; cases h
        exact (plA_inv hB hI2 (hN2 k hk).1 c2 hc).tr FX.co hco
      rw [if_neg c2] at h
      by_cases c3 : s.2 26 k = 7
      · rw [if_pos c3] at h; exact (ih _ _ _ _ _ _ h hI2 hN2 hc (fun e => absurd e (by decide)) (fun _ => hk)).tr FX.co hco
      rw [if_neg c3] at h
      by_cases c4 : s.2 26 k = 8
      · rw [if_pos c4] at h; exact (ih _ _ _ _ _ _ h hI2 hN2 hc (fun e => absurd e (by decide)) (fun _ => hk)).tr FX.co hco
      rw [if_neg c4] at h
      by_cases c5 : s.2 26 k = 9
      · rw [if_pos c5] at h
        refine row _ _ _ FX.co hco hI2 ?_ h
        split
        · exact (hN k hk).2 31 (Or.inl rfl)
        · exact (hN k hk).2 32 (Or.inr (Or.inl rfl))
      rw [if_neg c5] at h
      by_cases c6 : s.2 26 k = 10
      · rw [if_pos c6] at h
        obtain ⟨a, h1, h2⟩ := bindR_some h
        have q := row _ _ _ FX.co hco hI2 ((hN k hk).2 31 (Or.inl rfl)) h1
        by_cases c7 : a.1 = 0 ∨ a.1 = 1000
        · rw [if_pos c7] at h2; cases h2; exact q
        · rw [if_neg c7] at h2
          exact row _ _ _ q.2.1 q.2.2.2 q.1 (lnk _ q.2.1 hk 32 (Or.inr (Or.inl rfl))) h2
      · rw [if_neg c6] at h
        obtain ⟨a, h1, h2⟩ := bindR_some h
        have q := row _ _ _ FX.co hco hI2 ((hN k hk).2 31 (Or.inl rfl)) h1
        by_cases c7 : a.1 = 1000
        · rw [if_pos c7] at h2; cases h2; exact q
        · rw [if_neg c7] at h2
          obtain ⟨b, h3, h4⟩ := bindR_some h2
          have q2 := row _ _ _ q.2.1 q.2.2.2 q.1 (lnk _ q.2.1 hk 32 (Or.inr (Or.inl rfl))) h3
          cases h4
          refine ⟨q2.1, q2.2.1, ?_, q2.2.2.2⟩
          show 0 ≤ (if b.1 = 0 then a.1 else b.1).toInt ∧ (if b.1 = 0 then a.1 else b.1).toInt ≤ 1000
          split
          · exact q.2.2.1
          · exact q2.2.2.1
    | 2 =>
      have hk := hv (by decide)
      unfold rv at h
      by_cases c1 : x < s.2 27 k
      · rw [if_pos c1] at h
        by_cases c2 : s.1 40 = s.1 39
        · rw [if_pos c2] at h; cases h; exact rf 1000 (by decide) (by decide)
        rw [if_neg c2] at h
        obtain ⟨a, h1, h2⟩ := bindR_some h
        have q := row _ _ _ FX.co (by have := co_le hI c2; omega) (hI.co c2) ((hN k hk).2 31 (Or.inl rfl)) h1
        by_cases c3 : a.1 = 0
        · rw [if_pos c3] at h2
          exact (ih _ _ _ _ _ _ h2 q.1 (hN.fx q.2.1) (by rw [q.2.1.2.2.1]; exact hc) (fun e => absurd e (by decide)) (fun _ => hk)).tr q.2.1 q.2.2.2
        · rw [if_neg c3] at h2; cases h2; exact q
      · rw [if_neg c1] at h; cases h; exact rf 0 (by decide) (by decide)
    | m + 3 =>
      have hk := hv (by omega)
      unfold rv at h
      by_cases c2 : s.1 40 = s.1 39
      · rw [if_pos c2] at h; cases h; exact rf 1000 (by decide) (by decide)
      rw [if_neg c2] at h
      by_cases c1 : s.2 27 k ≤ shA s c
      · rw [if_pos c1] at h; cases h; exact ⟨hI.co c2, FX.co, okc 0 (by decide), by have := co_le hI c2; show _ ≤ ((coA s).1 40).toInt; omega⟩
      rw [if_neg c1] at h
      obtain ⟨a, h1, h2⟩ := bindR_some h
      have q := row _ _ _ FX.co (by have := co_le hI c2; omega) (hI.co c2) ((hN k hk).2 31 (Or.inl rfl)) h1
      by_cases c3 : a.1 = 0
      · rw [if_pos c3] at h2
        exact (ih _ _ _ _ _ _ h2 q.1 (hN.fx q.2.1) (by rw [q.2.1.2.2.1]; exact hc) (fun e => absurd e (by decide)) (fun _ => hk)).tr q.2.1 q.2.2.2
      · rw [if_neg c3] at h2; cases h2; exact q
theorem EvR.inv {m : Nat} {x : Int32} {k c : Nat} {s : AS} {u : Int32 × AS} (h : EvR m x k c s u) (hB : B ≤ 10000000) (hI : IV B s) (hN : NV V s) (hc : (c : Int) < (s.1 12).toInt) (hl : m = 0 → lkV V x) (hv : m ≠ 0 → V k) : OKR B s u := by
  obtain ⟨n, h⟩ := h
  exact rv_inv hB n m x k c s u h hI hN hc hl hv
end RVI
