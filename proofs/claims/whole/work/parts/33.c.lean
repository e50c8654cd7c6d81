/-! a run, on the state: steps by their nodes; what it ends with (0 went on, 1000 ended, else the failure) and the state behind -/
noncomputable def dpA (s : AS) (c v : Nat) (m : Int32) : Int32 × AS := if s.2 7 v = 2 then (1, s) else if mvA s c v m = 0 then (2, s) else (0, (va_up (va_up s.1 41 (s.1 41 + 1)) 42 (s.1 42 + mvA s c v m), (diA s c v m (mvA s c v m)).2))
/-- an hour of a rest -/
noncomputable def h1A (s : AS) : AS := (va_up (va_up (va_up s.1 1 (s.1 1 + 1)) 40 (s.1 40 + 1)) 43 (s.1 43 + 1), (ho1 s 6).2)
noncomputable def reA : Nat → AS → Int32 × AS
  | 0, s => (0, s)
  | n + 1, s => if s.1 40 = s.1 39 then (1000, s) else reA n (h1A s)
noncomputable def arR (s : AS) (c : Nat) : Int32 × AS := if s.2 14 c = 0 then (3, s) else (0, aiA s c)
noncomputable def lmR (s : AS) (v : Nat) : Int32 × AS := if s.2 7 v = 2 then (0, lmA s v) else (4, s)
noncomputable def feR (s : AS) (v : Nat) (n : Int32) : Int32 × AS := (if 1000 < s.2 5 v + n then 5 else 0, feA s v n)
noncomputable def plA (s : AS) (k c : Nat) : Int32 × AS :=
  if s.2 26 k = 0 then dpA s c (s.2 27 k).toNatClampNeg (s.2 28 k)
  else if s.2 26 k = 1 then arR s c
  else if s.2 26 k = 2 then (0, waA s c)
  else if s.2 26 k = 3 then reA (s.2 27 k).toNatClampNeg s
  else if s.2 26 k = 4 then feR s (s.2 27 k).toNatClampNeg (s.2 28 k)
  else if s.2 26 k = 5 then lmR s (s.2 27 k).toNatClampNeg
  else (100 + s.2 27 k, s)
/-- the class's number for what a run ends with -/
noncomputable def cO (e : Int32) : Int32 := if e = 1000 then -1 else e
/-- what a look sees -/
noncomputable def lkA (s : AS) (k c : Nat) : Int32 := if s.2 29 k = 14 then shA s c else if s.2 29 k = 15 then s.2 14 c else if s.2 29 k = 16 then s.1 1 - s.1 1 / 24 * 24 else if s.2 29 k = 17 then s.2 4 (s.2 27 k).toNatClampNeg else s.2 5 (s.2 27 k).toNatClampNeg
noncomputable abbrev hdA (s : AS) (k c : Nat) : Prop := (s.2 30 k = 60 ∧ lkA s k c < s.2 28 k) ∨ (¬ s.2 30 k = 60 ∧ lkA s k c = s.2 28 k)
noncomputable def rv : Nat → Nat → Int32 → Nat → Nat → AS → Option (Int32 × AS)
  | 0, _, _, _, _, _ => none
  | n + 1, 0, x, _, c, s => if x = -1 then some (0, s) else (rv n 1 0 x.toNatClampNeg c s).bind fun u => if u.1 = 0 then rv n 0 (u.2.2 33 x.toNatClampNeg) 0 c u.2 else some u
  | n + 1, 1, _, k, c, s =>
    if s.1 40 = s.1 39 then some (1000, s)
    else if s.2 26 k < 7 then some (plA (coA s) k c)
    else if s.2 26 k = 7 then rv n 2 0 k c (coA s)
    else if s.2 26 k = 8 then rv n 3 0 k c (coA s)
    else if s.2 26 k = 9 then rv n 0 (if hdA (coA s) k c then s.2 31 k else s.2 32 k) 0 c (coA s)
    else if s.2 26 k = 10 then (rv n 0 (s.2 31 k) 0 c (coA s)).bind fun u => if u.1 = 0 ∨ u.1 = 1000 then some u else rv n 0 (u.2.2 32 k) 0 c u.2
    else (rv n 0 (s.2 31 k) 0 c (coA s)).bind fun u => if u.1 = 1000 then some u else (rv n 0 (u.2.2 32 k) 0 c u.2).bind fun w => some (if w.1 = 0 then u.1 else w.1, w.2)
  | n + 1, 2, x, k, c, s => if x < s.2 27 k then (if s.1 40 = s.1 39 then some (1000, s) else (rv n 0 (s.2 31 k) 0 c (coA s)).bind fun u => if u.1 = 0 then rv n 2 (x + 1) k c u.2 else some u) else some (0, s)
  | n + 1, _ + 3, _, k, c, s => if s.1 40 = s.1 39 then some (1000, s) else if s.2 27 k ≤ shA s c then some (0, coA s) else (rv n 0 (s.2 31 k) 0 c (coA s)).bind fun u => if u.1 = 0 then rv n 3 0 k c u.2 else some u
/-- the run ends so -/
noncomputable def EvR (m : Nat) (x : Int32) (k c : Nat) (s : AS) (u : Int32 × AS) : Prop := ∃ n, rv n m x k c s = some u
theorem bindR_mono {x x' : Option (Int32 × AS)} {k k' : Int32 × AS → Option (Int32 × AS)} {r : Int32 × AS} (h : x.bind k = some r) (h1 : ∀ a, x = some a → x' = some a) (h2 : ∀ a b, k a = some b → k' a = some b) : x'.bind k' = some r := by
  cases e : x with
  | none => rw [e] at h; cases h
  | some a => rw [e] at h; rw [h1 a e]; exact h2 a r h
theorem rv_mono : ∀ (n m : Nat) (x : Int32) (k c : Nat) (s : AS) (r : Int32 × AS), rv n m x k c s = some r → rv (n + 1) m x k c s = some r := by
  intro n
  induction n with
  | zero => intro m x k c s r h; cases h
  | succ n ih =>
    intro m x k c s r h
    match m with
    | 0 =>
      unfold rv at h ⊢
      by_cases c1 : x = -1
      · rw [if_pos c1] at h ⊢; exact h
      rw [if_neg c1] at h ⊢
      refine bindR_mono h (fun a => ih _ _ _ _ _ a) (fun a b hb => ?_)
      by_cases c2 : a.1 = 0
      · rw [if_pos c2] at hb ⊢; exact ih _ _ _ _ _ _ hb
      · rw [if_neg c2] at hb ⊢; exact hb
    | 1 =>
      unfold rv at h ⊢
      by_cases c1 : s.1 40 = s.1 39
      · rw [if_pos c1] at h ⊢; exact h
      rw [if_neg c1] at h ⊢
      by_cases c2 : s.2 26 k < 7
      · rw [if_pos c2] at h ⊢; exact h
      rw [if_neg c2] at h ⊢
      by_cases c3 : s.2 26 k = 7
      · rw [if_pos c3] at h ⊢; exact ih _ _ _ _ _ _ h
      rw [if_neg c3] at h ⊢
      by_cases c4 : s.2 26 k = 8
      · rw [if_pos c4] at h ⊢; exact ih _ _ _ _ _ _ h
      rw [if_neg c4] at h ⊢
      by_cases c5 : s.2 26 k = 9
      · rw [if_pos c5] at h ⊢; exact ih _ _ _ _ _ _ h
      rw [if_neg c5] at h ⊢
      by_cases c6 : s.2 26 k = 10
      · rw [if_pos c6] at h ⊢
        refine bindR_mono h (fun a => ih _ _ _ _ _ a) (fun a b hb => ?_)
        by_cases c7 : a.1 = 0 ∨ a.1 = 1000
        · rw [if_pos c7] at hb ⊢; exact hb
        · rw [if_neg c7] at hb ⊢; exact ih _ _ _ _ _ _ hb
      · rw [if_neg c6] at h ⊢
        refine bindR_mono h (fun a => ih _ _ _ _ _ a) (fun a b hb => ?_)
        by_cases c7 : a.1 = 1000
        · rw [if_pos c7] at hb ⊢; exact hb
        · rw [if_neg c7] at hb ⊢; exact bindR_mono hb (fun a => ih _ _ _ _ _ a) (fun a b hb => hb)
    | 2 =>
      unfold rv at h ⊢
      by_cases c1 : x < s.2 27 k
      · rw [if_pos c1] at h ⊢
        by_cases c2 : s.1 40 = s.1 39
        · rw [if_pos c2] at h ⊢; exact h
        rw [if_neg c2] at h ⊢
        refine bindR_mono h (fun a => ih _ _ _ _ _ a) (fun a b hb => ?_)
        by_cases c3 : a.1 = 0
        · rw [if_pos c3] at hb ⊢; exact ih _ _ _ _ _ _ hb
        · rw [if_neg c3] at hb ⊢; exact hb
      · rw [if_neg c1] at h ⊢; exact h
    | m + 3 =>
      unfold rv at h ⊢
      by_cases c1 : s.1 40 = s.1 39
      · rw [if_pos c1] at h ⊢; exact h
      rw [if_neg c1] at h ⊢
      by_cases c2 : s.2 27 k ≤ shA s c
      · rw [if_pos c2] at h ⊢; exact h
      rw [if_neg c2] at h ⊢
      refine bindR_mono h (fun a => ih _ _ _ _ _ a) (fun a b hb => ?_)
      by_cases c3 : a.1 = 0
      · rw [if_pos c3] at hb ⊢; exact ih _ _ _ _ _ _ hb
      · rw [if_neg c3] at hb ⊢; exact hb
theorem rv_le {n n' m : Nat} {x : Int32} {k c : Nat} {s : AS} {r : Int32 × AS} (h : n ≤ n') (hr : rv n m x k c s = some r) : rv n' m x k c s = some r := by
  induction h with
  | refl => exact hr
  | step _ ih => exact rv_mono _ _ _ _ _ _ _ ih
section EVR
variable {m k c : Nat} {x : Int32} {s : AS} {u u' w : Int32 × AS}
theorem EvR.one (h : EvR m x k c s u) (h' : EvR m x k c s u') : u = u' := by
  obtain ⟨n, h⟩ := h
  obtain ⟨n', h'⟩ := h'
  have e := (rv_le (Nat.le_max_left n n') h).symm.trans (rv_le (Nat.le_max_right n n') h')
  exact Option.some.inj e
theorem bindR_some {x : Option (Int32 × AS)} {k : Int32 × AS → Option (Int32 × AS)} {r : Int32 × AS} (h : x.bind k = some r) : ∃ a, x = some a ∧ k a = some r := by
  cases x with
  | none => cases h
  | some a => exact ⟨a, rfl, h⟩
theorem EvR.nil (hx : x = -1) : EvR 0 x k c s (0, s) := ⟨1, by unfold rv; rw [if_pos hx]⟩
theorem EvR.stop (hx : ¬ x = -1) (h : EvR 1 0 x.toNatClampNeg c s u) (h0 : ¬ u.1 = 0) : EvR 0 x k c s u := by
  obtain ⟨n, h⟩ := h
  refine ⟨n + 1, ?_⟩
  unfold rv
  rw [if_neg hx, h]
  show (if u.1 = 0 then _ else some u) = some u
  rw [if_neg h0]
theorem EvR.go (hx : ¬ x = -1) (h : EvR 1 0 x.toNatClampNeg c s u) (h0 : u.1 = 0) (h2 : EvR 0 (u.2.2 33 x.toNatClampNeg) 0 c u.2 w) : EvR 0 x k c s w := by
  obtain ⟨n, h⟩ := h
  obtain ⟨n', h2⟩ := h2
  refine ⟨max n n' + 1, ?_⟩
  unfold rv
  rw [if_neg hx, rv_le (Nat.le_max_left n n') h]
  show (if u.1 = 0 then rv (max n n') 0 _ 0 c u.2 else some u) = some w
  rw [if_pos h0]
  exact rv_le (Nat.le_max_right n n') h2
theorem EvR.plain (h : ¬ s.1 40 = s.1 39) (h7 : s.2 26 k < 7) : EvR 1 x k c s (plA (coA s) k c) := ⟨1, by unfold rv; rw [if_neg h, if_pos h7]⟩
/-- what a step does that is built of blocks, once it is counted -/
noncomputable def BR (k c : Nat) (s : AS) (u : Int32 × AS) : Prop :=
  (s.2 26 k = 7 ∧ EvR 2 0 k c s u) ∨ (s.2 26 k = 8 ∧ EvR 3 0 k c s u) ∨ (s.2 26 k = 9 ∧ EvR 0 (if hdA s k c then s.2 31 k else s.2 32 k) 0 c s u)
  ∨ (s.2 26 k = 10 ∧ ∃ a, EvR 0 (s.2 31 k) 0 c s a ∧ (((a.1 = 0 ∨ a.1 = 1000) ∧ u = a) ∨ (¬ (a.1 = 0 ∨ a.1 = 1000) ∧ EvR 0 (a.2.2 32 k) 0 c a.2 u)))
  ∨ ((¬ s.2 26 k = 7 ∧ ¬ s.2 26 k = 8 ∧ ¬ s.2 26 k = 9 ∧ ¬ s.2 26 k = 10) ∧ ∃ a, EvR 0 (s.2 31 k) 0 c s a ∧ ((a.1 = 1000 ∧ u = a) ∨ (¬ a.1 = 1000 ∧ ∃ b, EvR 0 (a.2.2 32 k) 0 c a.2 b ∧ u = (if b.1 = 0 then a.1 else b.1, b.2))))
theorem EvR.built (h : ¬ s.1 40 = s.1 39) (h7 : ¬ s.2 26 k < 7) (hb : BR k c (coA s) u) : EvR 1 x k c s u := by
  rcases hb with ⟨h1, n, h2⟩ | ⟨h1, n, h2⟩ | ⟨h1, n, h2⟩ | ⟨h1, a, ⟨n, h2⟩, h3⟩ | ⟨h1, a, ⟨n, h2⟩, h3⟩
  · have h1 : s.2 26 k = 7 := h1
    exact ⟨n + 1, by unfold rv; rw [if_neg h, if_neg h7, if_pos h1]; exact h2⟩
  · have h1 : s.2 26 k = 8 := h1
    exact ⟨n + 1, by unfold rv; rw [if_neg h, if_neg h7, if_neg (by rw [h1]; decide), if_pos h1]; exact h2⟩
  · have h1 : s.2 26 k = 9 := h1
    exact ⟨n + 1, by unfold rv; rw [if_neg h, if_neg h7, if_neg (by rw [h1]; decide), if_neg (by rw [h1]; decide), if_pos h1]; exact h2⟩
  · have h1 : s.2 26 k = 10 := h1
    have h2 : rv n 0 (s.2 31 k) 0 c (coA s) = some a := h2
    rcases h3 with ⟨h3, rfl⟩ | ⟨h3, n', h4⟩
    · refine ⟨n + 1, ?_⟩
      unfold rv
      rw [if_neg h, if_neg h7, if_neg (by rw [h1]; decide), if_neg (by rw [h1]; decide), if_neg (by rw [h1]; decide), if_pos h1, h2]
      show (if u.1 = 0 ∨ u.1 = 1000 then _ else _) = _
      rw [if_pos h3]
    · refine ⟨max n n' + 1, ?_⟩
      unfold rv
      rw [if_neg h, if_neg h7, if_neg (by rw [h1]; decide), if_neg (by rw [h1]; decide), if_neg (by rw [h1]; decide), if_pos h1, rv_le (Nat.le_max_left n n') h2]
      show (if a.1 = 0 ∨ a.1 = 1000 then _ else _) = _
      rw [if_neg h3]
      exact rv_le (Nat.le_max_right n n') h4
  · have h1 : ¬ s.2 26 k = 7 ∧ ¬ s.2 26 k = 8 ∧ ¬ s.2 26 k = 9 ∧ ¬ s.2 26 k = 10 := h1
    have h2 : rv n 0 (s.2 31 k) 0 c (coA s) = some a := h2
    rcases h3 with ⟨h3, rfl⟩ | ⟨h3, b, ⟨n', h4⟩, h5⟩
    · refine ⟨n + 1, ?_⟩
      unfold rv
      rw [if_neg h, if_neg h7, if_neg h1.1, if_neg h1.2.1, if_neg h1.2.2.1, if_neg h1.2.2.2, h2]
      show (if u.1 = 1000 then _ else _) = _
      rw [if_pos h3]
    · refine ⟨max n n' + 1, ?_⟩
      unfold rv
      rw [if_neg h, if_neg h7, if_neg h1.1, if_neg h1.2.1, if_neg h1.2.2.1, if_neg h1.2.2.2, rv_le (Nat.le_max_left n n') h2]
      show (if a.1 = 1000 then _ else _) = _
      rw [if_neg h3, rv_le (Nat.le_max_right n n') h4, h5]
      rfl
theorem EvR.t0 (h : ¬ x < s.2 27 k) : EvR 2 x k c s (0, s) := ⟨1, by unfold rv; rw [if_neg h]⟩
theorem EvR.tl (h : x < s.2 27 k) (hl : s.1 40 = s.1 39) : EvR 2 x k c s (1000, s) := ⟨1, by unfold rv; rw [if_pos h, if_pos hl]⟩
theorem EvR.u0 (hl : ¬ s.1 40 = s.1 39) (h : s.2 27 k ≤ shA s c) : EvR 3 x k c s (0, coA s) := ⟨1, by unfold rv; rw [if_neg hl, if_pos h]⟩
end EVR
