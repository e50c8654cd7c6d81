/-! a run changes no cloth but its own -/
noncomputable def FC (c : Nat) (s s' : AS) : Prop := ∀ j k : Nat, (j = 14 ∨ j = 15 ∨ j = 17 ∨ j = 18) → k ≠ c → s'.2 j k = s.2 j k
section FCS
variable {c v : Nat} {s s1 s2 : AS} {m n : Int32}
theorem FC.rf : FC c s s := fun _ _ _ _ => rfl
theorem FC.tr (h : FC c s s1) (h2 : FC c s1 s2) : FC c s s2 := fun j k hj hk => (h2 j k hj hk).trans (h j k hj hk)
theorem FC.co : FC c s (coA s) := fun _ _ _ _ => rfl
theorem FC.fe : FC c s (feA s v n) := fun j k hj _ => by rcases hj with rfl | rfl | rfl | rfl <;> rfl
theorem FC.lm : FC c s (lmA s v) := fun j k hj _ => by rcases hj with rfl | rfl | rfl | rfl <;> rfl
theorem FC.h1 : FC c s (h1A s) := fun j k hj _ => by rcases hj with rfl | rfl | rfl | rfl <;> rfl
theorem FC.ho : FC c s (hoA s) := fun j k hj _ => by rcases hj with rfl | rfl | rfl | rfl <;> rfl
theorem FC.ai : FC c s (aiA s c) := fun j k hj hk => by
  rcases hj with rfl | rfl | rfl | rfl
  · exact if_neg hk
  · exact if_neg hk
  · rfl
  · rfl
theorem FC.wa : FC c s (waA s c) := fun j k hj hk => by
  rcases hj with rfl | rfl | rfl | rfl
  · exact if_neg hk
  · exact if_neg hk
  · rfl
  · rfl
theorem FC.di : FC c s (diA s c v m n) := fun j k hj hk => by
  rcases hj with rfl | rfl | rfl | rfl
  · exact if_neg hk
  · rfl
  · exact if_neg hk
  · exact if_neg hk
theorem FC.dp : FC c s (dpA s c v m).2 := by
  unfold dpA
  split
  · exact FC.rf
  · split
    · exact FC.rf
    · exact FC.di (s := s) (c := c) (v := v) (m := m) (n := mvA s c v m)
theorem FC.re : ∀ (n : Nat) (s : AS), FC c s (reA n s).2 := by
  intro n
  induction n with
  | zero => intro s; exact FC.rf
  | succ n ih =>
    intro s
    unfold reA
    split
    · exact FC.rf
    · exact FC.h1.tr (ih _)
theorem FC.pl {k : Nat} : FC c s (plA s k c).2 := by
  unfold plA
  split
  · exact FC.dp
  split
  · unfold arR; split
    · exact FC.rf
    · exact FC.ai
  split
  · exact FC.wa
  split
  · exact FC.re _ _
  split
  · exact FC.fe
  split
  · unfold lmR; split
    · exact FC.lm
    · exact FC.rf
  exact FC.rf
theorem rv_fc : ∀ (n m : Nat) (x : Int32) (k c : Nat) (s : AS) (u : Int32 × AS), rv n m x k c s = some u → FC c s u.2 := by
  intro n
  induction n with
  | zero => intro m x k c s u h; cases h
  | succ n ih =>
    intro m x k c s u h
    match m with
    | 0 =>
      unfold rv at h
      by_cases c1 : x = -1
      · rw [if_pos c1] at h; cases h; exact FC.rf
      rw [if_neg c1] at h
      obtain ⟨a, h1, h2⟩ := bindR_some h
      have q := ih _ _ _ _ _ _ h1
      by_cases c2 : a.1 = 0
      · rw [if_pos c2] at h2; exact q.tr (ih _ _ _ _ _ _ h2)
      · rw [if_neg c2] at h2; cases h2; exact q
    | 1 =>
      unfold rv at h
      by_cases c1 : s.1 40 = s.1 39
      · rw [if_pos c1] at h; cases h; exact FC.rf
      rw [if_neg c1] at h
      by_cases c2 : s.2 26 k < 7
      · rw [if_pos c2] at h; cases h; exact FC.co.tr FC.pl
      rw [if_neg c2] at h
      by_cases c3 : s.2 26 k = 7
      · rw [if_pos c3] at h; exact FC.co.tr (ih _ _ _ _ _ _ h)
      rw [if_neg c3] at h
      by_cases c4 : s.2 26 k = 8
      · rw [if_pos c4] at h; exact FC.co.tr (ih _ _ _ _ _ _ h)
      rw [if_neg c4] at h
      by_cases c5 : s.2 26 k = 9
      · rw [if_pos c5] at h; exact FC.co.tr (ih _ _ _ _ _ _ h)
      rw [if_neg c5] at h
      by_cases c6 : s.2 26 k = 10
      · rw [if_pos c6] at h
        obtain ⟨a, h1, h2⟩ := bindR_some h
        have q := FC.co.tr (ih _ _ _ _ _ _ h1)
        by_cases c7 : a.1 = 0 ∨ a.1 = 1000
        · rw [if_pos c7] at h2; cases h2; exact q
        · rw [if_neg c7] at h2; exact q.tr (ih _ _ _ _ _ _ h2)
      · rw [if_neg c6] at h
        obtain ⟨a, h1, h2⟩ := bindR_some h
        have q := FC.co.tr (ih _ _ _ _ _ _ h1)
        by_cases c7 : a.1 = 1000
        · rw [if_pos c7] at h2; cases h2; exact q
        · rw [if_neg c7] at h2
          obtain ⟨b, h3, h4⟩ := bindR_some h2
          have q2 := q.tr (ih _ _ _ _ _ _ h3)
          cases h4
          exact q2
    | 2 =>
      unfold rv at h
      by_cases c1 : x < s.2 27 k
      · rw [if_pos c1] at h
        by_cases c2 : s.1 40 = s.1 39
        · rw [if_pos c2] at h; cases h; exact FC.rf
        rw [if_neg c2] at h
        obtain ⟨a, h1, h2⟩ := bindR_some h
        have q := FC.co.tr (ih _ _ _ _ _ _ h1)
        by_cases c3 : a.1 = 0
        · rw [if_pos c3] at h2; exact q.tr (ih _ _ _ _ _ _ h2)
        · rw [if_neg c3] at h2; cases h2; exact q
      · rw [if_neg c1] at h; cases h; exact FC.rf
    | m + 3 =>
      unfold rv at h
      by_cases c2 : s.1 40 = s.1 39
      · rw [if_pos c2] at h; cases h; exact FC.rf
      rw [if_neg c2] at h
      by_cases c1 : s.2 27 k ≤ shA s c
      · rw [if_pos c1] at h; cases h; exact FC.co
      rw [if_neg c1] at h
      obtain ⟨a, h1, h2⟩ := bindR_some h
      have q := FC.co.tr (ih _ _ _ _ _ _ h1)
      by_cases c3 : a.1 = 0
      · rw [if_pos c3] at h2; exact q.tr (ih _ _ _ _ _ _ h2)
      · rw [if_neg c3] at h2; cases h2; exact q
theorem EvR.fc {m k c : Nat} {x : Int32} {s : AS} {u : Int32 × AS} (h : EvR m x k c s u) : FC c s u.2 := by
  obtain ⟨n, h⟩ := h
  exact rv_fc n m x k c s u h
end FCS
