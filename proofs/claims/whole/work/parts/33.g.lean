/-! trees: what the reading lays, by a step's number: its place, its first block, its second one, the step behind it (0: none, j + 1) -/
noncomputable abbrev TT : Type := Nat → Nat → Nat
noncomputable abbrev SGT : Type := SG × TT
noncomputable def tset (T : TT) (k j v : Nat) : TT := fun k' j' => if k' = k ∧ j' = j then v else T k' j'
noncomputable def tnew (T : TT) (j p : Nat) : TT := fun k' j' => if j' = j then (if k' = 0 then p else 0) else T k' j'
noncomputable def tnx (T : TT) (la k : Nat) : TT := if la = 0 then T else tset T 3 (la - 1) (k + 1)
/-- the first of the steps from number n on, where m is the number behind them -/
noncomputable def thd (n m : Nat) : Nat := if n = m then 0 else n + 1
/-- a block is hung in -/
noncomputable def tl (fl k n : Nat) (v : SGT) : SGT := (v.1, tset v.2 fl k (thd n v.1.2.1))
section GT
variable (K V : Nat → Int32) (N : Nat → Nat)
/-- a step is made -/
noncomputable def gst (u : SGT) : SGT := (gad N u.1, tnew u.2 u.1.2.1 u.1.1)
noncomputable def gt : Nat → Nat → Nat → Nat → SGT → Option SGT
  | 0, _, _, _, _ => none
  | n + 1, 0, d, la, u => if u.1.2.2.1 = 0 ∧ 1 ≤ K u.1.1 ∧ K u.1.1 ≤ 12 then (gt n 1 d 0 u).bind fun w => gt n 0 d (u.1.2.1 + 1) (w.1, tnx w.2 la u.1.2.1) else some u
  | n + 1, 1, d, _, u =>
    if 300 ≤ u.1.2.1 then some (grf 2 u.1, u.2)
    else if K u.1.1 < 8 then some (gpa K N 59 (gpl K V N (K u.1.1) (gad N u.1)), tnew u.2 u.1.2.1 u.1.1)
    else if K u.1.1 = 8 then (gt n 2 d 0 (gnu K V N 0 50 (gad N u.1), (gst N u).2)).bind fun w => some (tl 1 u.1.2.1 (u.1.2.1 + 1) w)
    else if K u.1.1 = 9 then (gt n 2 d 0 (gnu K V N 0 200 (gad N u.1), (gst N u).2)).bind fun w => some (tl 1 u.1.2.1 (u.1.2.1 + 1) w)
    else if K u.1.1 = 10 then (gt n 2 d 0 (gte K V N (gad N u.1), (gst N u).2)).bind fun w => if K w.1.1 = 13 then (gt n 2 d 0 (gpa K N 13 w.1, (tl 1 u.1.2.1 (u.1.2.1 + 1) w).2)).bind fun x => some (tl 2 u.1.2.1 w.1.2.1 x) else some (tl 1 u.1.2.1 (u.1.2.1 + 1) w)
    else (gt n 2 d 0 (gst N u)).bind fun w => (gt n 2 d 0 (gpa K N (if K u.1.1 = 11 then 13 else 14) w.1, (tl 1 u.1.2.1 (u.1.2.1 + 1) w).2)).bind fun x => some (tl 2 u.1.2.1 w.1.2.1 x)
  | n + 1, _ + 2, d, _, u => if (gob K N d u.1).2.2.1 = 0 then (gt n 0 (d + 1) 0 (gob K N d u.1, u.2)).bind fun w => some (gpa K N 125 w.1, w.2) else some (gob K N d u.1, u.2)
noncomputable def EvT (m d la : Nat) (u w : SGT) : Prop := ∃ n, gt K V N n m d la u = some w
end GT
section GT2
variable {K V : Nat → Int32} {N : Nat → Nat}
theorem bindT_mono {x x' : Option SGT} {k k' : SGT → Option SGT} {r : SGT} (h : x.bind k = some r) (h1 : ∀ a, x = some a → x' = some a) (h2 : ∀ a b, k a = some b → k' a = some b) : x'.bind k' = some r := by
  cases e : x with
  | none => rw [e] at h; cases h
  | some a => rw [e] at h; rw [h1 a e]; exact h2 a r h
theorem gt_mono : ∀ (n m d la : Nat) (s r : SGT), gt K V N n m d la s = some r → gt K V N (n + 1) m d la s = some r := by
  intro n
  induction n with
  | zero => intro m d la s r h; cases h
  | succ n ih =>
    intro m d la s r h
    match m with
    | 0 =>
      unfold gt at h ⊢
      split at h
      · rename_i c
        rw [if_pos c]
        exact bindT_mono h (fun a => ih 1 d 0 s a) (fun a b => ih 0 d _ _ b)
      · rename_i c
        rw [if_neg c]; exact h
    | 1 =>
      unfold gt at h ⊢
      by_cases c1 : 300 ≤ s.1.2.1
      · rw [if_pos c1] at h ⊢; exact h
      rw [if_neg c1] at h ⊢
      by_cases c2 : K s.1.1 < 8
      · rw [if_pos c2] at h ⊢; exact h
      rw [if_neg c2] at h ⊢
      by_cases c3 : K s.1.1 = 8
      · rw [if_pos c3] at h ⊢; exact bindT_mono h (fun a => ih _ _ _ _ a) (fun a b hb => hb)
      rw [if_neg c3] at h ⊢
      by_cases c4 : K s.1.1 = 9
      · rw [if_pos c4] at h ⊢; exact bindT_mono h (fun a => ih _ _ _ _ a) (fun a b hb => hb)
      rw [if_neg c4] at h ⊢
      by_cases c5 : K s.1.1 = 10
      · rw [if_pos c5] at h ⊢
        refine bindT_mono h (fun a => ih _ _ _ _ a) (fun a b hb => ?_)
        by_cases c6 : K a.1.1 = 13
        · rw [if_pos c6] at hb ⊢; exact bindT_mono hb (fun a => ih _ _ _ _ a) (fun a b hb => hb)
        · rw [if_neg c6] at hb ⊢; exact hb
      · rw [if_neg c5] at h ⊢
        exact bindT_mono h (fun a => ih _ _ _ _ a) (fun a b hb => bindT_mono hb (fun a => ih _ _ _ _ a) (fun a b hb => hb))
    | m + 2 =>
      unfold gt at h ⊢
      by_cases c1 : (gob K N d s.1).2.2.1 = 0
      · rw [if_pos c1] at h ⊢
        exact bindT_mono h (fun a => ih _ _ _ _ a) (fun a b hb => hb)
      · rw [if_neg c1] at h ⊢; exact h
theorem gt_le {n n' m d la : Nat} {s r : SGT} (h : n ≤ n') (hr : gt K V N n m d la s = some r) : gt K V N n' m d la s = some r := by
  induction h with
  | refl => exact hr
  | step _ ih => exact gt_mono _ _ _ _ _ _ ih
theorem EvT.one {m d la : Nat} {s r r' : SGT} (h : EvT K V N m d la s r) (h' : EvT K V N m d la s r') : r = r' := by
  obtain ⟨n, h⟩ := h
  obtain ⟨n', h'⟩ := h'
  have e := (gt_le (Nat.le_max_left n n') h).symm.trans (gt_le (Nat.le_max_right n n') h')
  exact Option.some.inj e
theorem bindT_some {x : Option SGT} {k : SGT → Option SGT} {r : SGT} (h : x.bind k = some r) : ∃ a, x = some a ∧ k a = some r := by
  cases x with
  | none => cases h
  | some a => exact ⟨a, rfl, h⟩
/-- without the tree it is the reading -/
theorem gt_gr : ∀ (n m d la : Nat) (s r : SGT), gt K V N n m d la s = some r → gr K V N n m d s.1 = some r.1 := by
  intro n
  induction n with
  | zero => intro m d la s r h; cases h
  | succ n ih =>
    intro m d la s r h
    match m with
    | 0 =>
      unfold gt at h
      unfold gr
      split at h
      · rename_i c
        rw [if_pos c]
        obtain ⟨a, h1, h2⟩ := bindT_some h
        rw [ih _ _ _ _ _ h1]
        have g2 := ih _ _ _ _ _ h2
        exact g2
      · rename_i c
        rw [if_neg c]; cases h; rfl
    | 1 =>
      unfold gt at h
      unfold gr
      by_cases c1 : 300 ≤ s.1.2.1
      · rw [if_pos c1] at h ⊢; cases h; rfl
      rw [if_neg c1] at h ⊢
      by_cases c2 : K s.1.1 < 8
      · rw [if_pos c2] at h ⊢; cases h; rfl
      rw [if_neg c2] at h ⊢
      by_cases c3 : K s.1.1 = 8
      · rw [if_pos c3] at h ⊢
        obtain ⟨a, h1, h2⟩ := bindT_some h
        cases h2
        exact ih _ _ _ _ _ h1
      rw [if_neg c3] at h ⊢
      by_cases c4 : K s.1.1 = 9
      · rw [if_pos c4] at h ⊢
        obtain ⟨a, h1, h2⟩ := bindT_some h
        cases h2
        exact ih _ _ _ _ _ h1
      rw [if_neg c4] at h ⊢
      by_cases c5 : K s.1.1 = 10
      · rw [if_pos c5] at h ⊢
        obtain ⟨a, h1, h2⟩ := bindT_some h
        rw [ih _ _ _ _ _ h1]
        show (if K a.1.1 = 13 then _ else _) = _
        by_cases c6 : K a.1.1 = 13
        · rw [if_pos c6] at h2 ⊢
          obtain ⟨b, h3, h4⟩ := bindT_some h2
          cases h4
          exact ih _ _ _ _ _ h3
        · rw [if_neg c6] at h2 ⊢
          cases h2
          rfl
      · rw [if_neg c5] at h ⊢
        obtain ⟨a, h1, h2⟩ := bindT_some h
        obtain ⟨b, h3, h4⟩ := bindT_some h2
        cases h4
        have g1 := ih _ _ _ _ _ h1
        have g3 := ih _ _ _ _ _ h3
        rw [show gr K V N n 2 d (gad N s.1) = some a.1 from g1]
        exact g3
    | m + 2 =>
      unfold gt at h
      unfold gr
      by_cases c1 : (gob K N d s.1).2.2.1 = 0
      · rw [if_pos c1] at h ⊢
        obtain ⟨a, h1, h2⟩ := bindT_some h
        cases h2
        have g1 := ih _ _ _ _ _ h1
        rw [show gr K V N n 0 (d + 1) (gob K N d s.1) = some a.1 from g1]
        rfl
      · rw [if_neg c1] at h ⊢; cases h; rfl
theorem EvT.ev {m d la : Nat} {s r : SGT} (h : EvT K V N m d la s r) : Ev K V N m d s.1 r.1 := by
  obtain ⟨n, h⟩ := h
  exact ⟨n, gt_gr _ _ _ _ _ _ h⟩
theorem EvT.nd {m d la : Nat} {s r : SGT} (h : EvT K V N m d la s r) : s.1.2.1 ≤ r.1.2.1 ∧ (m = 1 → r.1.2.2.1 = 0 → s.1.2.1 + 1 ≤ r.1.2.1) ∧ (s.1.2.1 ≤ 300 → r.1.2.1 ≤ 300) := h.ev.nd
theorem EvT.stop {d la : Nat} {s : SGT} (h : ¬ (s.1.2.2.1 = 0 ∧ 1 ≤ K s.1.1 ∧ K s.1.1 ≤ 12)) : EvT K V N 0 d la s s := ⟨1, by unfold gt; rw [if_neg h]⟩
theorem EvT.go {d la : Nat} {s r q : SGT} (h : s.1.2.2.1 = 0 ∧ 1 ≤ K s.1.1 ∧ K s.1.1 ≤ 12) (h1 : EvT K V N 1 d 0 s r) (h2 : EvT K V N 0 d (s.1.2.1 + 1) (r.1, tnx r.2 la s.1.2.1) q) : EvT K V N 0 d la s q := by
  obtain ⟨n, h1⟩ := h1
  obtain ⟨n', h2⟩ := h2
  refine ⟨max n n' + 1, ?_⟩
  unfold gt
  rw [if_pos h, gt_le (Nat.le_max_left n n') h1]
  exact gt_le (Nat.le_max_right n n') h2
theorem EvT.full {d la : Nat} {s : SGT} (h : 300 ≤ s.1.2.1) : EvT K V N 1 d la s (grf 2 s.1, s.2) := ⟨1, by unfold gt; rw [if_pos h]⟩
theorem EvT.plain {d la : Nat} {s : SGT} (h : ¬ 300 ≤ s.1.2.1) (h8 : K s.1.1 < 8) : EvT K V N 1 d la s (gpa K N 59 (gpl K V N (K s.1.1) (gad N s.1)), tnew s.2 s.1.2.1 s.1.1) := ⟨1, by unfold gt; rw [if_neg h, if_pos h8]⟩
/-- what follows the word of a step that is built of blocks; k its number -/
noncomputable def BUT (K V : Nat → Int32) (N : Nat → Nat) (w : Int32) (d k : Nat) (u r : SGT) : Prop :=
  (w = 8 ∧ ∃ v, EvT K V N 2 d 0 (gnu K V N 0 50 u.1, u.2) v ∧ r = tl 1 k u.1.2.1 v)
  ∨ (w = 9 ∧ ∃ v, EvT K V N 2 d 0 (gnu K V N 0 200 u.1, u.2) v ∧ r = tl 1 k u.1.2.1 v)
  ∨ (w = 10 ∧ ∃ v, EvT K V N 2 d 0 (gte K V N u.1, u.2) v ∧ ((¬ K v.1.1 = 13 ∧ r = tl 1 k u.1.2.1 v) ∨ (K v.1.1 = 13 ∧ ∃ x, EvT K V N 2 d 0 (gpa K N 13 v.1, (tl 1 k u.1.2.1 v).2) x ∧ r = tl 2 k v.1.2.1 x)))
  ∨ ((¬ w = 8 ∧ ¬ w = 9 ∧ ¬ w = 10) ∧ ∃ v, EvT K V N 2 d 0 u v ∧ ∃ x, EvT K V N 2 d 0 (gpa K N (if w = 11 then 13 else 14) v.1, (tl 1 k u.1.2.1 v).2) x ∧ r = tl 2 k v.1.2.1 x)
theorem EvT.built {d la : Nat} {s r : SGT} (h : ¬ 300 ≤ s.1.2.1) (h8 : ¬ K s.1.1 < 8) (hb : BUT K V N (K s.1.1) d s.1.2.1 (gst N s) r) : EvT K V N 1 d la s r := by
  have hn : (gst N s).1.2.1 = s.1.2.1 + 1 := rfl
  rcases hb with ⟨h1, v, ⟨n, h2⟩, h3⟩ | ⟨h1, v, ⟨n, h2⟩, h3⟩ | ⟨h1, v, ⟨n, h2⟩, h3⟩ | ⟨h1, v, ⟨n, h2⟩, x, ⟨n', h3⟩, h4⟩
  · refine ⟨n + 1, ?_⟩
    unfold gt
    rw [if_neg h, if_neg h8, if_pos h1, show gt K V N n 2 d 0 (gnu K V N 0 50 (gad N s.1), (gst N s).2) = some v from h2, h3]
    rfl
  · refine ⟨n + 1, ?_⟩
    unfold gt
    rw [if_neg h, if_neg h8, if_neg (by rw [h1]; decide), if_pos h1, show gt K V N n 2 d 0 (gnu K V N 0 200 (gad N s.1), (gst N s).2) = some v from h2, h3]
    rfl
  · rcases h3 with ⟨h3, h4⟩ | ⟨h3, x, ⟨n', h4⟩, h5⟩
    · refine ⟨n + 1, ?_⟩
      unfold gt
      rw [if_neg h, if_neg h8, if_neg (by rw [h1]; decide), if_neg (by rw [h1]; decide), if_pos h1, show gt K V N n 2 d 0 (gte K V N (gad N s.1), (gst N s).2) = some v from h2, h4]
      show (if K v.1.1 = 13 then _ else _) = _
      rw [if_neg h3]
      rfl
    · refine ⟨max n n' + 1, ?_⟩
      unfold gt
      rw [if_neg h, if_neg h8, if_neg (by rw [h1]; decide), if_neg (by rw [h1]; decide), if_pos h1, gt_le (Nat.le_max_left n n') (show gt K V N n 2 d 0 (gte K V N (gad N s.1), (gst N s).2) = some v from h2), h5]
      show (if K v.1.1 = 13 then _ else _) = _
      rw [if_pos h3, gt_le (Nat.le_max_right n n') (show gt K V N n' 2 d 0 (gpa K N 13 v.1, (tl 1 s.1.2.1 (s.1.2.1 + 1) v).2) = some x from h4)]
      rfl
  · refine ⟨max n n' + 1, ?_⟩
    unfold gt
    rw [if_neg h, if_neg h8, if_neg h1.1, if_neg h1.2.1, if_neg h1.2.2, gt_le (Nat.le_max_left n n') h2, h4]
    show (gt K V N (max n n') 2 d 0 _).bind _ = _
    rw [gt_le (Nat.le_max_right n n') (show gt K V N n' 2 d 0 (gpa K N (if K s.1.1 = 11 then 13 else 14) v.1, (tl 1 s.1.2.1 (s.1.2.1 + 1) v).2) = some x from h3)]
    rfl
theorem EvT.block0 {d la : Nat} {s : SGT} (h : ¬ (gob K N d s.1).2.2.1 = 0) : EvT K V N 2 d la s (gob K N d s.1, s.2) := ⟨1, by unfold gt; rw [if_neg h]⟩
theorem EvT.block {d la : Nat} {s r : SGT} (h : (gob K N d s.1).2.2.1 = 0) (h1 : EvT K V N 0 (d + 1) 0 (gob K N d s.1, s.2) r) : EvT K V N 2 d la s (gpa K N 125 r.1, r.2) := by
  obtain ⟨n, h1⟩ := h1
  refine ⟨n + 1, ?_⟩
  unfold gt
  rw [if_pos h, h1]
  rfl
theorem EvT.fx2 {d la : Nat} {s : SGT} (h : ¬ s.1.2.2.1 = 0) : EvT K V N 2 d la s s := by
  have e : gob K N d s.1 = s.1 := gob_fx h
  have := EvT.block0 (K := K) (V := V) (N := N) (d := d) (la := la) (s := s) (by rw [e]; exact h)
  rwa [e] at this
theorem EvT.fx0 {d la : Nat} {s : SGT} (h : ¬ s.1.2.2.1 = 0) : EvT K V N 0 d la s s := EvT.stop fun g => h g.1
/-! without a fault a token is passed -/
theorem gpa_ok {c : Int32} {q : SG} (h : (gpa K N c q).2.2.1 = 0) : q.2.2.1 = 0 ∧ K q.1 = c ∧ (gpa K N c q).1 = N q.1 := by
  unfold gpa at h ⊢
  by_cases g : q.2.2.1 = 0
  · rw [if_pos g] at h ⊢
    by_cases k : K q.1 = c
    · rw [if_pos k]; exact ⟨g, k, rfl⟩
    · rw [if_neg k] at h; exact absurd (show (1 : Int32) = 0 from h) (by decide)
  · rw [if_neg g] at h; exact absurd h g
theorem gnu_ok {lo hi : Int32} {q : SG} (h : (gnu K V N lo hi q).2.2.1 = 0) : q.2.2.1 = 0 ∧ (gnu K V N lo hi q).1 = N q.1 ∧ ¬ V q.1 < lo ∧ ¬ hi < V q.1 := by
  unfold gnu at h ⊢
  by_cases g : q.2.2.1 = 0
  · rw [if_pos g] at h ⊢
    by_cases k : K q.1 = -2 ∨ (K q.1 = -1 ∧ (V q.1 < lo ∨ hi < V q.1))
    · rw [if_pos k] at h; exact absurd (show (2 : Int32) = 0 from h) (by decide)
    · rw [if_neg k] at h ⊢
      have hp := gpa_ok h
      exact ⟨g, hp.2.2, fun e => k (Or.inr ⟨hp.2.1, Or.inl e⟩), fun e => k (Or.inr ⟨hp.2.1, Or.inr e⟩)⟩
  · rw [if_neg g] at h; exact absurd h g
theorem grf_ok {k : Int32} {q : SG} (hk : ¬ k = 0) (h : (grf k q).2.2.1 = 0) : False := by
  unfold grf at h
  by_cases g : q.2.2.1 = 0
  · rw [if_pos g] at h; exact hk h
  · rw [if_neg g] at h; exact g h
end GT2
/-- what a step of the class holds by the tokens behind its word at p -/
noncomputable def ctC (K V : Nat → Int32) (N : Nat → Nat) (p : Nat) (v nu lo be : Value) : Prop :=
  (K p = 1 ∨ K p = 5 → v = .int (V (N p)) ∧ nu = .int (V (N (N p)))) ∧ (K p = 4 ∨ K p = 7 ∨ K p = 8 ∨ K p = 9 → nu = .int (V (N p))) ∧ (K p = 6 → v = .int (V (N p)))
  ∧ (K p = 10 → lo = .int (K (N p)) ∧ (K (N p) = 17 ∨ K (N p) = 18 → v = .int (V (N (N p))) ∧ be = .int (if K (N (N (N p))) = 60 then 1 else 0) ∧ nu = .int (V (N (N (N (N p)))))) ∧ (¬ (K (N p) = 17 ∨ K (N p) = 18) → be = .int (if K (N (N p)) = 60 then 1 else 0) ∧ nu = .int (V (N (N (N p))))))
/-- what a node of the reference holds -/
noncomputable def ctM (K V : Nat → Int32) (N : Nat → Nat) (p : Nat) (on tw lk sg : Int32) : Prop :=
  (K p = 1 ∨ K p = 5 → on = V (N p) ∧ tw = V (N (N p))) ∧ (K p = 4 ∨ K p = 6 ∨ K p = 7 ∨ K p = 8 ∨ K p = 9 → on = V (N p))
  ∧ (K p = 10 → lk = cm (K (N p)) ∧ (15 ≤ K (N p) ∧ K (N p) ≤ 19) ∧ (K (N p) = 17 ∨ K (N p) = 18 → on = V (N (N p)) ∧ sg = K (N (N (N p))) ∧ tw = V (N (N (N (N p))))) ∧ (¬ (K (N p) = 17 ∨ K (N p) = 18) → sg = K (N (N p)) ∧ tw = V (N (N (N p)))))
/-- a link: none, or the step -/
noncomputable def lkv (ad : Nat → Nat) (x : Nat) : Value := if x = 0 then .null else .ref (ad (x - 1))
noncomputable def lkm (by_ x : Nat) : Int32 := if x = 0 then -1 else nI (by_ + (x - 1))
