/-! the grammar over tokens: K kind, V value, N the next place; a state: place, steps, fault, its place -/
noncomputable abbrev SG : Type := Nat × Nat × Int32 × Int32
section GR
variable (K V : Nat → Int32) (N : Nat → Nat)
noncomputable def gfl (k : Int32) (s : SG) : SG := (s.1, s.2.1, k, nI s.1)
noncomputable def grf (k : Int32) (s : SG) : SG := if s.2.2.1 = 0 then gfl k s else s
noncomputable def gpa (c : Int32) (s : SG) : SG := if s.2.2.1 = 0 then (if K s.1 = c then (N s.1, s.2) else gfl 1 s) else s
noncomputable def gnu (lo hi : Int32) (s : SG) : SG := if s.2.2.1 = 0 then (if K s.1 = -2 ∨ (K s.1 = -1 ∧ (V s.1 < lo ∨ hi < V s.1)) then gfl 2 s else gpa K N (-1) s) else s
noncomputable def gpl (w : Int32) (s : SG) : SG :=
  if w = 1 then gnu K V N 1 20 (gnu K V N 0 5 s) else if w = 4 then gnu K V N 1 200 s else if w = 5 then gnu K V N 1 1000 (gnu K V N 0 5 s) else if w = 6 then gnu K V N 0 5 s else if w = 7 then gnu K V N 1 99 s else s
noncomputable def gte1 (s : SG) : SG := gpa K N (K s.1) (if K s.1 < 15 ∨ 19 < K s.1 then grf 1 s else s)
noncomputable def gte2 (w : Int32) (s : SG) : SG := if w = 17 ∨ w = 18 then gnu K V N 0 5 s else s
noncomputable def gte3 (s : SG) : SG := gnu K V N 0 9999 (gpa K N (if K s.1 = 60 then 60 else 61) s)
noncomputable def gte (s : SG) : SG := gte3 K V N (gte2 K V N (K s.1) (gte1 K N s))
noncomputable def gob (d : Nat) (s : SG) : SG := gpa K N 123 (if K s.1 = 123 ∧ 8 ≤ d then grf 2 s else s)
/-- a step's word is passed -/
noncomputable def gad (s : SG) : SG := (N s.1, s.2.1 + 1, s.2.2)
noncomputable def gr : Nat → Nat → Nat → SG → Option SG
  | 0, _, _, _ => none
  | n + 1, 0, d, s => if s.2.2.1 = 0 ∧ 1 ≤ K s.1 ∧ K s.1 ≤ 12 then (gr n 1 d s).bind (gr n 0 d) else some s
  | n + 1, 1, d, s =>
    if 300 ≤ s.2.1 then some (grf 2 s)
    else if K s.1 < 8 then some (gpa K N 59 (gpl K V N (K s.1) (gad N s)))
    else if K s.1 = 8 then gr n 2 d (gnu K V N 0 50 (gad N s))
    else if K s.1 = 9 then gr n 2 d (gnu K V N 0 200 (gad N s))
    else if K s.1 = 10 then (gr n 2 d (gte K V N (gad N s))).bind fun r => if K r.1 = 13 then gr n 2 d (gpa K N 13 r) else some r
    else (gr n 2 d (gad N s)).bind fun r => gr n 2 d (gpa K N (if K s.1 = 11 then 13 else 14) r)
  | n + 1, _ + 2, d, s => if (gob K N d s).2.2.1 = 0 then (gr n 0 (d + 1) (gob K N d s)).bind fun r => some (gpa K N 125 r) else some (gob K N d s)
/-- the reading ends there -/
noncomputable def Ev (m d : Nat) (s r : SG) : Prop := ∃ n, gr K V N n m d s = some r
end GR
section GR2
variable {K V : Nat → Int32} {N : Nat → Nat}
theorem bind_mono {x x' : Option SG} {k k' : SG → Option SG} {r : SG} (h : x.bind k = some r) (h1 : ∀ a, x = some a → x' = some a) (h2 : ∀ a b, k a = some b → k' a = some b) : x'.bind k' = some r := by
  cases e : x with
  | none => rw [e] at h; cases h
  | some a => rw [e] at h; rw [h1 a e]; exact h2 a r h
theorem gr_mono : ∀ (n m d : Nat) (s r : SG), gr K V N n m d s = some r → gr K V N (n + 1) m d s = some r := by
  intro n
  induction n with
  | zero => intro m d s r h; cases h
  | succ n ih =>
    intro m d s r h
    match m with
    | 0 =>
      unfold gr at h ⊢
      split at h
      · rename_i c
        rw [if_pos c]
        exact bind_mono h (fun a => ih 1 d s a) (fun a b => ih 0 d a b)
      · rename_i c
        rw [if_neg c]; exact h
    | 1 =>
      unfold gr at h ⊢
      by_cases c1 : 300 ≤ s.2.1
      · rw [if_pos c1] at h ⊢; exact h
      rw [if_neg c1] at h ⊢
      by_cases c2 : K s.1 < 8
      · rw [if_pos c2] at h ⊢; exact h
      rw [if_neg c2] at h ⊢
      by_cases c3 : K s.1 = 8
      · rw [if_pos c3] at h ⊢; exact ih _ _ _ _ h
      rw [if_neg c3] at h ⊢
      by_cases c4 : K s.1 = 9
      · rw [if_pos c4] at h ⊢; exact ih _ _ _ _ h
      rw [if_neg c4] at h ⊢
      by_cases c5 : K s.1 = 10
      · rw [if_pos c5] at h ⊢
        refine bind_mono h (fun a => ih 2 d _ a) (fun a b hb => ?_)
        by_cases c6 : K a.1 = 13
        · rw [if_pos c6] at hb ⊢; exact ih _ _ _ _ hb
        · rw [if_neg c6] at hb ⊢; exact hb
      · rw [if_neg c5] at h ⊢
        exact bind_mono h (fun a => ih 2 d _ a) (fun a b => ih 2 d _ b)
    | m + 2 =>
      unfold gr at h ⊢
      by_cases c1 : (gob K N d s).2.2.1 = 0
      · rw [if_pos c1] at h ⊢
        exact bind_mono h (fun a => ih 0 (d + 1) _ a) (fun a b hb => hb)
      · rw [if_neg c1] at h ⊢; exact h
theorem gr_le {n n' m d : Nat} {s r : SG} (h : n ≤ n') (hr : gr K V N n m d s = some r) : gr K V N n' m d s = some r := by
  induction h with
  | refl => exact hr
  | step _ ih => exact gr_mono _ _ _ _ _ ih
theorem Ev.one {m d : Nat} {s r r' : SG} (h : Ev K V N m d s r) (h' : Ev K V N m d s r') : r = r' := by
  obtain ⟨n, h⟩ := h
  obtain ⟨n', h'⟩ := h'
  have e := (gr_le (Nat.le_max_left n n') h).symm.trans (gr_le (Nat.le_max_right n n') h')
  exact Option.some.inj e
theorem Ev.stop {d : Nat} {s : SG} (h : ¬ (s.2.2.1 = 0 ∧ 1 ≤ K s.1 ∧ K s.1 ≤ 12)) : Ev K V N 0 d s s := ⟨1, by unfold gr; rw [if_neg h]⟩
theorem gr_bind {n n' m d : Nat} {s r q : SG} {k : Nat → SG → Option SG} (h : gr K V N n m d s = some r) (hk : k n' r = some q) (hm : ∀ a b, a ≤ b → k a r = some q → k b r = some q) : (gr K V N (max n n') m d s).bind (k (max n n')) = some q := by
  rw [gr_le (Nat.le_max_left n n') h]
  exact hm n' _ (Nat.le_max_right n n') hk
theorem Ev.go {d : Nat} {s r q : SG} (h : s.2.2.1 = 0 ∧ 1 ≤ K s.1 ∧ K s.1 ≤ 12) (h1 : Ev K V N 1 d s r) (h2 : Ev K V N 0 d r q) : Ev K V N 0 d s q := by
  obtain ⟨n, h1⟩ := h1
  obtain ⟨n', h2⟩ := h2
  refine ⟨max n n' + 1, ?_⟩
  unfold gr
  rw [if_pos h]
  exact gr_bind (k := fun a r => gr K V N a 0 d r) h1 h2 (fun a b hab => gr_le hab)
theorem Ev.full {d : Nat} {s : SG} (h : 300 ≤ s.2.1) : Ev K V N 1 d s (grf 2 s) := ⟨1, by unfold gr; rw [if_pos h]⟩
theorem Ev.plain {d : Nat} {s : SG} (h : ¬ 300 ≤ s.2.1) (h8 : K s.1 < 8) : Ev K V N 1 d s (gpa K N 59 (gpl K V N (K s.1) (gad N s))) := ⟨1, by unfold gr; rw [if_neg h, if_pos h8]⟩
theorem Ev.times {d : Nat} {s r : SG} (h : ¬ 300 ≤ s.2.1) (h8 : K s.1 = 8) (h1 : Ev K V N 2 d (gnu K V N 0 50 (gad N s)) r) : Ev K V N 1 d s r := by
  obtain ⟨n, h1⟩ := h1
  refine ⟨n + 1, ?_⟩
  unfold gr
  rw [if_neg h, if_neg (by rw [h8]; decide), if_pos h8]
  exact h1
theorem Ev.until {d : Nat} {s r : SG} (h : ¬ 300 ≤ s.2.1) (h8 : K s.1 = 9) (h1 : Ev K V N 2 d (gnu K V N 0 200 (gad N s)) r) : Ev K V N 1 d s r := by
  obtain ⟨n, h1⟩ := h1
  refine ⟨n + 1, ?_⟩
  unfold gr
  rw [if_neg h, if_neg (by rw [h8]; decide), if_neg (by rw [h8]; decide), if_pos h8]
  exact h1
theorem Ev.if1 {d : Nat} {s r : SG} (h : ¬ 300 ≤ s.2.1) (h8 : K s.1 = 10) (h1 : Ev K V N 2 d (gte K V N (gad N s)) r) (h13 : ¬ K r.1 = 13) : Ev K V N 1 d s r := by
  obtain ⟨n, h1⟩ := h1
  refine ⟨n + 1, ?_⟩
  unfold gr
  rw [if_neg h, if_neg (by rw [h8]; decide), if_neg (by rw [h8]; decide), if_neg (by rw [h8]; decide), if_pos h8, h1]
  show (if K r.1 = 13 then _ else some r) = some r
  rw [if_neg h13]
theorem Ev.if2 {d : Nat} {s r q : SG} (h : ¬ 300 ≤ s.2.1) (h8 : K s.1 = 10) (h1 : Ev K V N 2 d (gte K V N (gad N s)) r) (h13 : K r.1 = 13) (h2 : Ev K V N 2 d (gpa K N 13 r) q) : Ev K V N 1 d s q := by
  obtain ⟨n, h1⟩ := h1
  obtain ⟨n', h2⟩ := h2
  refine ⟨max n n' + 1, ?_⟩
  unfold gr
  rw [if_neg h, if_neg (by rw [h8]; decide), if_neg (by rw [h8]; decide), if_neg (by rw [h8]; decide), if_pos h8]
  exact gr_bind (k := fun a r => if K r.1 = 13 then gr K V N a 2 d (gpa K N 13 r) else some r) h1 (by show (if K r.1 = 13 then gr K V N n' 2 d (gpa K N 13 r) else some r) = some q; rw [if_pos h13]; exact h2) (fun a b hab => by
    show (if K r.1 = 13 then gr K V N a 2 d (gpa K N 13 r) else some r) = some q → (if K r.1 = 13 then gr K V N b 2 d (gpa K N 13 r) else some r) = some q
    rw [if_pos h13, if_pos h13]
    exact gr_le hab)
theorem Ev.two {d : Nat} {s r q : SG} (h : ¬ 300 ≤ s.2.1) (h8 : 11 ≤ K s.1) (h1 : Ev K V N 2 d (gad N s) r) (h2 : Ev K V N 2 d (gpa K N (if K s.1 = 11 then 13 else 14) r) q) : Ev K V N 1 d s q := by
  obtain ⟨n, h1⟩ := h1
  obtain ⟨n', h2⟩ := h2
  refine ⟨max n n' + 1, ?_⟩
  have g : ∀ x : Int32, x < 11 → ¬ K s.1 = x := by
    intro x hx e
    rw [e, Int32.le_iff_toInt_le] at h8
    rw [Int32.lt_iff_toInt_lt] at hx
    omega
  unfold gr
  rw [if_neg h, if_neg (by
    rw [Int32.le_iff_toInt_le] at h8
    rw [Int32.lt_iff_toInt_lt]
    have e1 : (11 : Int32).toInt = 11 := by decide
    have e2 : (8 : Int32).toInt = 8 := by decide
    omega), if_neg (g 8 (by decide)), if_neg (g 9 (by decide)), if_neg (g 10 (by decide))]
  exact gr_bind (k := fun a r => gr K V N a 2 d (gpa K N (if K s.1 = 11 then 13 else 14) r)) h1 h2 (fun a b hab => gr_le hab)
theorem Ev.block0 {d : Nat} {s : SG} (h : ¬ (gob K N d s).2.2.1 = 0) : Ev K V N 2 d s (gob K N d s) := ⟨1, by unfold gr; rw [if_neg h]⟩
theorem Ev.block {d : Nat} {s r : SG} (h : (gob K N d s).2.2.1 = 0) (h1 : Ev K V N 0 (d + 1) (gob K N d s) r) : Ev K V N 2 d s (gpa K N 125 r) := by
  obtain ⟨n, h1⟩ := h1
  refine ⟨n + 1, ?_⟩
  unfold gr
  rw [if_pos h, h1]
  rfl
/-! what a fault does -/
theorem gpa_fx {c : Int32} {s : SG} (h : ¬ s.2.2.1 = 0) : gpa K N c s = s := if_neg h
theorem gnu_fx {lo hi : Int32} {s : SG} (h : ¬ s.2.2.1 = 0) : gnu K V N lo hi s = s := if_neg h
theorem gpl_fx {w : Int32} {s : SG} (h : ¬ s.2.2.1 = 0) : gpl K V N w s = s := by
  unfold gpl
  simp only [gnu_fx (K := K) (V := V) (N := N) h, ite_self]
theorem grf_fx {k : Int32} {s : SG} (h : ¬ s.2.2.1 = 0) : grf k s = s := if_neg h
theorem gob_fx {d : Nat} {s : SG} (h : ¬ s.2.2.1 = 0) : gob K N d s = s := by
  unfold gob
  rw [grf_fx h, ite_self, gpa_fx h]
theorem Ev.fx2 {d : Nat} {s : SG} (h : ¬ s.2.2.1 = 0) : Ev K V N 2 d s s := by
  have e : gob K N d s = s := gob_fx h
  have := Ev.block0 (K := K) (V := V) (N := N) (d := d) (s := s) (by rw [e]; exact h)
  rwa [e] at this
theorem Ev.fx0 {d : Nat} {s : SG} (h : ¬ s.2.2.1 = 0) : Ev K V N 0 d s s := Ev.stop fun g => h g.1
end GR2
theorem gpa_nd {K : Nat → Int32} {N : Nat → Nat} {c : Int32} {q : SG} : (gpa K N c q).2.1 = q.2.1 := by
  unfold gpa gfl
  split
  · split <;> rfl
  · rfl
theorem grf_nd {k : Int32} {q : SG} : (grf k q).2.1 = q.2.1 := by
  unfold grf gfl
  split <;> rfl
theorem gnu_nd {K V : Nat → Int32} {N : Nat → Nat} {lo hi : Int32} {q : SG} : (gnu K V N lo hi q).2.1 = q.2.1 := by
  unfold gnu
  split
  · split
    · rfl
    · exact gpa_nd
  · rfl
theorem gpl_nd {K V : Nat → Int32} {N : Nat → Nat} {w : Int32} {q : SG} : (gpl K V N w q).2.1 = q.2.1 := by
  unfold gpl
  split
  · rw [gnu_nd, gnu_nd]
  · split
    · rw [gnu_nd]
    · split
      · rw [gnu_nd, gnu_nd]
      · split
        · rw [gnu_nd]
        · split
          · rw [gnu_nd]
          · rfl
theorem gte_nd {K V : Nat → Int32} {N : Nat → Nat} {q : SG} : (gte K V N q).2.1 = q.2.1 := by
  have h1 : (gte1 K N q).2.1 = q.2.1 := by
    unfold gte1
    rw [gpa_nd]
    split
    · exact grf_nd
    · rfl
  have h2 : (gte2 K V N (K q.1) (gte1 K N q)).2.1 = q.2.1 := by
    unfold gte2
    split
    · rw [gnu_nd, h1]
    · exact h1
  unfold gte gte3
  rw [gnu_nd, gpa_nd, h2]
theorem gob_nd {K : Nat → Int32} {N : Nat → Nat} {d : Nat} {q : SG} : (gob K N d q).2.1 = q.2.1 := by
  unfold gob
  rw [gpa_nd]
  split
  · exact grf_nd
  · rfl
section GR3
variable {K V : Nat → Int32} {N : Nat → Nat}
theorem bind_some {x : Option SG} {k : SG → Option SG} {r : SG} (h : x.bind k = some r) : ∃ a, x = some a ∧ k a = some r := by
  cases x with
  | none => cases h
  | some a => exact ⟨a, rfl, h⟩
theorem gr_nd : ∀ (n m d : Nat) (s r : SG), gr K V N n m d s = some r → s.2.1 ≤ r.2.1 ∧ (m = 1 → r.2.2.1 = 0 → s.2.1 + 1 ≤ r.2.1) ∧ (s.2.1 ≤ 300 → r.2.1 ≤ 300) := by
  intro n
  induction n with
  | zero => intro m d s r h; cases h
  | succ n ih =>
    intro m d s r h
    match m with
    | 0 =>
      unfold gr at h
      split at h
      · obtain ⟨a, h1, h2⟩ := bind_some h
        have i1 := ih 1 d s a h1
        have i2 := ih 0 d a r h2
        exact ⟨by omega, fun g => absurd g (by omega), fun g => i2.2.2 (i1.2.2 g)⟩
      · cases h
        exact ⟨Nat.le_refl _, fun g => absurd g (by omega), id⟩
    | 1 =>
      unfold gr at h
      by_cases c1 : 300 ≤ s.2.1
      · rw [if_pos c1] at h
        cases h
        refine ⟨Nat.le_of_eq grf_nd.symm, fun _ g => ?_, fun g => by rw [grf_nd]; exact g⟩
        exfalso
        unfold grf gfl at g
        split at g
        · exact absurd (show (2 : Int32) = 0 from g) (by decide)
        · rename_i k; exact k g
      rw [if_neg c1] at h
      have hg : (gad N s).2.1 = s.2.1 + 1 := rfl
      by_cases c2 : K s.1 < 8
      · rw [if_pos c2] at h
        cases h
        rw [gpa_nd, gpl_nd, hg]
        exact ⟨by omega, fun _ _ => by omega, fun _ => by omega⟩
      rw [if_neg c2] at h
      by_cases c3 : K s.1 = 8
      · rw [if_pos c3] at h
        have i := ih _ _ _ _ h
        rw [gnu_nd, hg] at i
        exact ⟨by omega, fun _ _ => by omega, fun _ => i.2.2 (by omega)⟩
      rw [if_neg c3] at h
      by_cases c4 : K s.1 = 9
      · rw [if_pos c4] at h
        have i := ih _ _ _ _ h
        rw [gnu_nd, hg] at i
        exact ⟨by omega, fun _ _ => by omega, fun _ => i.2.2 (by omega)⟩
      rw [if_neg c4] at h
      by_cases c5 : K s.1 = 10
      · rw [if_pos c5] at h
        obtain ⟨a, h1, h2⟩ := bind_some h
        have i := ih _ _ _ _ h1
        rw [gte_nd, hg] at i
        by_cases c6 : K a.1 = 13
        · rw [if_pos c6] at h2
          have i2 := ih _ _ _ _ h2
          rw [gpa_nd] at i2
          exact ⟨by omega, fun _ _ => by omega, fun _ => i2.2.2 (i.2.2 (by omega))⟩
        · rw [if_neg c6] at h2
          cases h2
          exact ⟨by omega, fun _ _ => by omega, fun _ => i.2.2 (by omega)⟩
      · rw [if_neg c5] at h
        obtain ⟨a, h1, h2⟩ := bind_some h
        have i := ih _ _ _ _ h1
        rw [hg] at i
        have i2 := ih _ _ _ _ h2
        rw [gpa_nd] at i2
        exact ⟨by omega, fun _ _ => by omega, fun _ => i2.2.2 (i.2.2 (by omega))⟩
    | m + 2 =>
      unfold gr at h
      by_cases c1 : (gob K N d s).2.2.1 = 0
      · rw [if_pos c1] at h
        obtain ⟨a, h1, h2⟩ := bind_some h
        cases h2
        have i := ih _ _ _ _ h1
        rw [gob_nd] at i
        rw [gpa_nd]
        exact ⟨i.1, fun g => absurd g (by omega), i.2.2⟩
      · rw [if_neg c1] at h
        cases h
        rw [gob_nd]
        exact ⟨Nat.le_refl _, fun g => absurd g (by omega), id⟩
theorem Ev.nd {m d : Nat} {s r : SG} (h : Ev K V N m d s r) : s.2.1 ≤ r.2.1 ∧ (m = 1 → r.2.2.1 = 0 → s.2.1 + 1 ≤ r.2.1) ∧ (s.2.1 ≤ 300 → r.2.1 ≤ 300) := by
  obtain ⟨n, h⟩ := h
  exact gr_nd n m d s r h
/-- what follows the word of a step that is built of blocks -/
noncomputable def BU (K V : Nat → Int32) (N : Nat → Nat) (w : Int32) (d : Nat) (q r : SG) : Prop := (w = 8 ∧ Ev K V N 2 d (gnu K V N 0 50 q) r) ∨ (w = 9 ∧ Ev K V N 2 d (gnu K V N 0 200 q) r) ∨ (w = 10 ∧ ∃ s, Ev K V N 2 d (gte K V N q) s ∧ ((¬ K s.1 = 13 ∧ r = s) ∨ (K s.1 = 13 ∧ Ev K V N 2 d (gpa K N 13 s) r))) ∨ ((¬ w = 8 ∧ ¬ w = 9 ∧ ¬ w = 10) ∧ ∃ s, Ev K V N 2 d q s ∧ Ev K V N 2 d (gpa K N (if w = 11 then 13 else 14) s) r)
theorem Ev.built {d : Nat} {s r : SG} (h : ¬ 300 ≤ s.2.1) (h8 : ¬ K s.1 < 8) (hb : BU K V N (K s.1) d (gad N s) r) : Ev K V N 1 d s r := by
  rcases hb with ⟨h1, h2⟩ | ⟨h1, h2⟩ | ⟨h1, x, h2, h3⟩ | ⟨h1, x, h2, h3⟩
  · exact Ev.times h h1 h2
  · exact Ev.until h h1 h2
  · rcases h3 with ⟨h3, rfl⟩ | ⟨h3, h4⟩
    · exact Ev.if1 h h1 h2 h3
    · exact Ev.if2 h h1 h2 h3 h4
  · refine Ev.two h ?_ h2 h3
    obtain ⟨a, b, c⟩ := h1
    rw [← Int32.toInt_inj] at a b c
    rw [Int32.lt_iff_toInt_lt] at h8
    rw [Int32.le_iff_toInt_le]
    have e8 : (8 : Int32).toInt = 8 := by decide
    have e9 : (9 : Int32).toInt = 9 := by decide
    have e10 : (10 : Int32).toInt = 10 := by decide
    have e11 : (11 : Int32).toInt = 11 := by decide
    omega
end GR3
/-! the reference's reader stands at the state r -/
noncomputable def MI (tt : Nat → Int32) (ln : Nat) (r : SG) (x22 x23 x24 : Int32) : Prop := x23 = 0 ∧ r.2.2.1 = 0 ∧ x24 = r.2.2.2 ∧ ∃ p : Nat, x22 = nI p ∧ p ≤ ln ∧ sk tt ln p = r.1
/-- it has failed as r says -/
noncomputable def MO (r : SG) (x23 x24 : Int32) : Prop := x23 = r.2.2.1 ∧ x24 = r.2.2.2 ∧ ¬ r.2.2.1 = 0 ∧ 0 < x23.toInt
section MIS
variable {tt : Nat → Int32} {ln : Nat} {r : SG} {x22 x23 x24 : Int32}
theorem MI.q (h : MI tt ln r x22 x23 x24) : r.1 ≤ ln ∧ sk tt ln r.1 = r.1 := by
  obtain ⟨-, -, -, p, h1, h2, h3⟩ := h
  rw [← h3]
  exact ⟨(sk_le h2).2, sk_sk h2⟩
theorem MI.sk (h : MI tt ln r x22 x23 x24) {y : Int32} (hy : y = nI r.1) : MI tt ln r y x23 x24 := ⟨h.1, h.2.1, h.2.2.1, r.1, hy, h.q.1, h.q.2⟩
/-- the token here is c: behind it -/
theorem MI.pass (h : MI tt ln r x22 x23 x24) {c y : Int32} (hK : Kp tt ln r.1 = c) (hq : r.1 < ln) (hy : y = nI (nx tt ln r.1)) : MI tt ln (gpa (Kp tt ln) (nq tt ln) c r) y x23 x24 := by
  have e : gpa (Kp tt ln) (nq tt ln) c r = (nq tt ln r.1, r.2) := by
    unfold gpa
    rw [if_pos h.2.1, if_pos hK]
  rw [e]
  exact ⟨h.1, h.2.1, h.2.2.1, nx tt ln r.1, hy, (nx_le hq).2, by show _ = nq tt ln r.1; unfold nq; rw [if_pos hq]⟩
theorem MI.fl (h : MI tt ln r x22 x23 x24) {c y z : Int32} (hK : ¬ Kp tt ln r.1 = c) (hy : y = 1) (hz : z = nI r.1) : MO (gpa (Kp tt ln) (nq tt ln) c r) y z := by
  have e : gpa (Kp tt ln) (nq tt ln) c r = (r.1, r.2.1, 1, nI r.1) := by
    unfold gpa gfl
    rw [if_pos h.2.1, if_neg hK]
  rw [e]
  exact ⟨hy, hz, by show ¬ (1 : Int32) = 0; decide, by rw [hy]; decide⟩
end MIS
/-- what follows a step's word -/
noncomputable def RSx (K V : Nat → Int32) (N : Nat → Nat) (w : Int32) (d : Nat) (q r : SG) : Prop := (w < 8 ∧ r = gpa K N 59 (gpl K V N w q)) ∨ (¬ w < 8 ∧ BU K V N w d q r)
/-- a step, or what stands in its place -/
noncomputable def SXx (K V : Nat → Int32) (N : Nat → Nat) (d : Nat) (q r : SG) : Prop := ((1 ≤ K q.1 ∧ K q.1 ≤ 12) ∧ Ev K V N 1 d q r) ∨ (¬ (1 ≤ K q.1 ∧ K q.1 ≤ 12) ∧ r = gfl 1 q)
theorem RSx.ev {K V : Nat → Int32} {N : Nat → Nat} {d : Nat} {q r : SG} (h : ¬ 300 ≤ q.2.1) (hr : RSx K V N (K q.1) d (gad N q) r) : Ev K V N 1 d q r := by
  rcases hr with ⟨h1, rfl⟩ | ⟨h1, h2⟩
  · exact Ev.plain h h1
  · exact Ev.built h h1 h2
theorem BU.i8 {K V : Nat → Int32} {N : Nat → Nat} {d : Nat} {q r : SG} (h : Ev K V N 2 d (gnu K V N 0 50 q) r) : RSx K V N 8 d q r := Or.inr ⟨by decide, Or.inl ⟨rfl, h⟩⟩
theorem BU.i9 {K V : Nat → Int32} {N : Nat → Nat} {d : Nat} {q r : SG} (h : Ev K V N 2 d (gnu K V N 0 200 q) r) : RSx K V N 9 d q r := Or.inr ⟨by decide, Or.inr (Or.inl ⟨rfl, h⟩)⟩
theorem BU.i10 {K V : Nat → Int32} {N : Nat → Nat} {d : Nat} {q s r : SG} (h : Ev K V N 2 d (gte K V N q) s) (h2 : (¬ K s.1 = 13 ∧ r = s) ∨ (K s.1 = 13 ∧ Ev K V N 2 d (gpa K N 13 s) r)) : RSx K V N 10 d q r := Or.inr ⟨by decide, Or.inr (Or.inr (Or.inl ⟨rfl, s, h, h2⟩))⟩
