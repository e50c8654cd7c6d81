/-! the tokens of a text, purely -/
noncomputable def reF (Q : Nat → Bool) : Nat → Nat → Nat
  | 0, p => p
  | k + 1, p => if Q p = true then reF Q k (p + 1) else p
/-- the first place from p on, below n, where Q fails; n if there is none -/
noncomputable def re (Q : Nat → Bool) (n p : Nat) : Nat := reF Q (n - p) p
theorem reF_le {Q : Nat → Bool} : ∀ (k p : Nat), p ≤ reF Q k p ∧ reF Q k p ≤ p + k := by
  intro k
  induction k with
  | zero => intro p; exact ⟨Nat.le_refl _, Nat.le_refl _⟩
  | succ k ih =>
    intro p
    show p ≤ (if Q p = true then reF Q k (p + 1) else p) ∧ (if Q p = true then reF Q k (p + 1) else p) ≤ p + (k + 1)
    have := ih (p + 1)
    split <;> omega
theorem re_ge {Q : Nat → Bool} {n p : Nat} : p ≤ re Q n p := (reF_le (n - p) p).1
theorem re_le {Q : Nat → Bool} {n p : Nat} (h : p ≤ n) : re Q n p ≤ n := by
  have := (reF_le (Q := Q) (n - p) p).2
  unfold re
  omega
theorem re_go {Q : Nat → Bool} {n p : Nat} (h : p < n) (hq : Q p = true) : re Q n p = re Q n (p + 1) := by
  unfold re
  obtain ⟨k, hk⟩ : ∃ k, n - p = k + 1 := ⟨n - p - 1, by omega⟩
  have e : n - (p + 1) = k := by omega
  rw [hk, e]
  show (if Q p = true then reF Q k (p + 1) else p) = _
  rw [if_pos hq]
theorem re_stop {Q : Nat → Bool} {n p : Nat} (h : n ≤ p ∨ Q p = false) : re Q n p = p := by
  unfold re
  rcases Nat.eq_zero_or_pos (n - p) with e | e
  · rw [e]; rfl
  · obtain ⟨k, hk⟩ : ∃ k, n - p = k + 1 := ⟨n - p - 1, by omega⟩
    rw [hk]
    show (if Q p = true then reF Q k (p + 1) else p) = _
    rcases h with h | h
    · omega
    · rw [h]; rfl
theorem reF_end {Q : Nat → Bool} : ∀ (k p : Nat), reF Q k p = p + k ∨ Q (reF Q k p) = false := by
  intro k
  induction k with
  | zero => intro p; exact Or.inl rfl
  | succ k ih =>
    intro p
    show (if Q p = true then reF Q k (p + 1) else p) = p + (k + 1) ∨ Q (if Q p = true then reF Q k (p + 1) else p) = false
    by_cases h : Q p = true
    · rw [if_pos h]
      exact (ih (p + 1)).imp (fun e => by omega) id
    · rw [if_neg h]
      exact Or.inr (by simpa using h)
theorem re_end {Q : Nat → Bool} {n p : Nat} (h : p ≤ n) : re Q n p = n ∨ Q (re Q n p) = false := (reF_end (n - p) p).imp (fun e => by unfold re; omega) id
theorem re_again {Q : Nat → Bool} {n p : Nat} (h : p ≤ n) : re Q n (re Q n p) = re Q n p := re_stop ((re_end h).imp (fun e => by omega) id)
noncomputable def isB (c : Int32) : Bool := decide (c = 32 ∨ c = 10)
noncomputable def isL (c : Int32) : Bool := decide (97 ≤ c ∧ c ≤ 122)
noncomputable def isD (c : Int32) : Bool := decide (48 ≤ c ∧ c ≤ 57)
noncomputable def isG (c : Int32) : Bool := decide (c = 59 ∨ c = 123 ∨ c = 125 ∨ c = 60 ∨ c = 61)
noncomputable def sk (t : Nat → Int32) (n p : Nat) : Nat := re (fun x => isB (t x)) n p
noncomputable def le_ (t : Nat → Int32) (n p : Nat) : Nat := re (fun x => isL (t x)) n p
noncomputable def de_ (t : Nat → Int32) (n p : Nat) : Nat := re (fun x => isD (t x)) n p
/-- the place behind the token that begins at p -/
noncomputable def nx (t : Nat → Int32) (n p : Nat) : Nat := if isL (t p) = true then le_ t n p else if isD (t p) = true then de_ t n p else p + 1
/-- where the token behind the one at q begins -/
noncomputable def nq (t : Nat → Int32) (n q : Nat) : Nat := if q < n then sk t n (nx t n q) else q
noncomputable def Sj (t : Nat → Int32) (n : Nat) : Nat → Nat
  | 0 => sk t n 0
  | j + 1 => nq t n (Sj t n j)
/-- word k (in the reference's order) stands at p, len letters long -/
noncomputable abbrev mW (t : Nat → Int32) (p len k : Nat) : Prop := lenS.getD k 0 = len ∧ ∀ i : Nat, i < len → t (p + i) = chS k i
/-- the first of the words ks (number in the reference's order, number given) that stands at p -/
noncomputable def wF (t : Nat → Int32) (p len : Nat) (d : Int32) : List (Nat × Int32) → Int32
  | [] => d
  | w :: r => if mW t p len w.1 then w.2 else wF t p len d r
noncomputable def tabC : List (Nat × Int32) := [(0, 1), (1, 2), (2, 3), (3, 4), (4, 5), (5, 6), (6, 7), (7, 8), (8, 9), (9, 10), (10, 11), (11, 12), (13, 13), (12, 14), (14, 15), (15, 16), (17, 17), (18, 18), (16, 19)]
noncomputable def tabM : List (Nat × Int32) := [(0, 0), (1, 1), (2, 2), (3, 3), (4, 4), (5, 5), (6, 6), (7, 7), (8, 8), (9, 9), (10, 10), (11, 11), (12, 12), (13, 13), (14, 14), (15, 15), (16, 16), (17, 17), (18, 18)]
noncomputable def wn (t : Nat → Int32) (p len : Nat) : Int32 := wF t p len (-3) tabC
/-- the reference's number of the class's word, -1 of what is none -/
noncomputable def cm (k : Int32) : Int32 := if 1 ≤ k ∧ k ≤ 12 then k - 1 else if k = 13 then 13 else if k = 14 then 12 else if k = 15 then 14 else if k = 16 then 15 else if k = 17 then 17 else if k = 18 then 18 else if k = 19 then 16 else -1
noncomputable def vF (t : Nat → Int32) (p : Nat) : Nat → Int32
  | 0 => 0
  | k + 1 => vF t p k * 10 + t (p + k) - 48
/-- the kind of the token that begins at p: 0 the end, a word's number, a sign's byte, -1 a number, -2 a long one, -3 none -/
noncomputable def Kp (t : Nat → Int32) (n p : Nat) : Int32 := if p < n then (if isL (t p) = true then wn t p (le_ t n p - p) else if isD (t p) = true then (if 4 < de_ t n p - p then -2 else -1) else if isG (t p) = true then t p else -3) else 0
noncomputable def Vp (t : Nat → Int32) (n p : Nat) : Int32 := if p < n then (if isL (t p) = true then 0 else if isD (t p) = true then vF t p (min 4 (de_ t n p - p)) else 0) else 0
theorem mW_one {t : Nat → Int32} {p len k k' : Nat} (hk : k < 19) (hk' : k' < 19) (h : mW t p len k) (h' : mW t p len k') : k = k' := by
  have hd : ∀ a, a < 19 → ∀ b, b < 19 → a ≠ b → lenS.getD a 0 ≠ lenS.getD b 0 ∨ ∃ i, i < lenS.getD a 0 ∧ chS a i ≠ chS b i := by decide +kernel
  rcases Nat.decEq k k' with e | e
  · rcases hd k hk k' hk' e with h1 | ⟨i, h1, h2⟩
    · exact absurd (h.1.trans h'.1.symm) h1
    · have hi : i < len := h.1 ▸ h1
      exact absurd ((h.2 i hi).symm.trans (h'.2 i hi)) h2
  · exact e
theorem wF_none {t : Nat → Int32} {p len : Nat} {d : Int32} : ∀ ws : List (Nat × Int32), (∀ w ∈ ws, ¬ mW t p len w.1) → wF t p len d ws = d := by
  intro ws
  induction ws with
  | nil => intro _; rfl
  | cons w r ih =>
    intro h
    show (if mW t p len w.1 then w.2 else wF t p len d r) = d
    rw [if_neg (h w (List.mem_cons_self ..))]
    exact ih fun v hv => h v (List.mem_cons_of_mem _ hv)
theorem wF_at {t : Nat → Int32} {p len k : Nat} {d z : Int32} (hk : k < 19) (hm : mW t p len k) : ∀ ws : List (Nat × Int32), (∀ w ∈ ws, w.1 < 19) → (∀ w ∈ ws, w.1 = k → w.2 = z) → (∃ w ∈ ws, w.1 = k) → wF t p len d ws = z := by
  intro ws
  induction ws with
  | nil => intro _ _ h; obtain ⟨w, hw, -⟩ := h; cases hw
  | cons w r ih =>
    intro h1 h2 h3
    show (if mW t p len w.1 then w.2 else wF t p len d r) = z
    by_cases hw : mW t p len w.1
    · rw [if_pos hw]
      exact h2 w (List.mem_cons_self ..) (mW_one (h1 w (List.mem_cons_self ..)) hk hw hm)
    · rw [if_neg hw]
      refine ih (fun v hv => h1 v (List.mem_cons_of_mem _ hv)) (fun v hv => h2 v (List.mem_cons_of_mem _ hv)) ?_
      obtain ⟨v, hv, e⟩ := h3
      rcases List.mem_cons.mp hv with e2 | hv
      · subst e2; rw [e] at hw; exact absurd hm hw
      · exact ⟨v, hv, e⟩
theorem tab_cm : ∀ k, k < 19 → ∃ z : Int32, (∀ w ∈ tabC, w.1 = k → w.2 = z) ∧ (∃ w ∈ tabC, w.1 = k) ∧ (∀ w ∈ tabM, w.1 = k → w.2 = cm z) ∧ (∃ w ∈ tabM, w.1 = k) ∧ 1 ≤ z ∧ z ≤ 19 := by
  have h : ∀ k, k < 19 → ∃ w ∈ tabC, w.1 = k ∧ (∀ v ∈ tabC, v.1 = k → v.2 = w.2) ∧ (∀ v ∈ tabM, v.1 = k → v.2 = cm w.2) ∧ (∃ v ∈ tabM, v.1 = k) ∧ 1 ≤ w.2 ∧ w.2 ≤ 19 := by decide +kernel
  intro k hk
  obtain ⟨w, h1, h2, h3, h4, h5, h6⟩ := h k hk
  exact ⟨w.2, h3, ⟨w, h1, h2⟩, h4, h5, h6⟩
theorem wn_cm (t : Nat → Int32) (p len : Nat) : wF t p len (-1) tabM = cm (wn t p len) ∧ (wn t p len = -3 ∨ 1 ≤ wn t p len ∧ wn t p len ≤ 19) := by
  by_cases h : ∃ k, k < 19 ∧ mW t p len k
  · obtain ⟨k, hk, hm⟩ := h
    obtain ⟨z, h1, h2, h3, h4, h5, h6⟩ := tab_cm k hk
    have e1 := wF_at (d := -3) hk hm tabC (by decide +kernel) h1 h2
    have e2 := wF_at (d := -1) hk hm tabM (by decide +kernel) h3 h4
    have e1 : wn t p len = z := e1
    rw [e1, e2]
    exact ⟨rfl, Or.inr ⟨h5, h6⟩⟩
  · have e1 : wn t p len = -3 := wF_none tabC fun w hw hm => h ⟨w.1, (by decide +kernel : ∀ w ∈ tabC, w.1 < 19) w hw, hm⟩
    have e2 := wF_none (t := t) (p := p) (len := len) (d := -1) tabM fun w hw hm => h ⟨w.1, (by decide +kernel : ∀ w ∈ tabM, w.1 < 19) w hw, hm⟩
    rw [e1, e2]
    exact ⟨by decide, Or.inl rfl⟩
/-- a byte of the class and one of the reference -/
noncomputable def agb (c m : Int32) : Prop := c = m ∨ (c < 0 ∧ 127 < m)
