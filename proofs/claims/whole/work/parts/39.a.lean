/-! a tree that was read without a fault: its numbers, links and levels -/
section GOK
variable {K V : Nat → Int32} {N : Nat → Nat}
noncomputable def lnk (n : Nat) (δ : Nat → Nat) (e x : Nat) : Prop := x = 0 ∨ ∃ q : Nat, x = q + 1 ∧ q < n ∧ δ q = e
theorem lnk.mo {n n' e x : Nat} {δ δ' : Nat → Nat} (h : lnk n δ e x) (hn : n ≤ n') (hd : ∀ j : Nat, j < n → δ' j = δ j) : lnk n' δ' e x := by
  rcases h with h | ⟨q, h1, h2, h3⟩
  · exact Or.inl h
  · exact Or.inr ⟨q, h1, by omega, by rw [hd q h2]; exact h3⟩
noncomputable def GC (K V : Nat → Int32) (N : Nat → Nat) (p : Nat) : Prop := (1 ≤ K p ∧ K p ≤ 12) ∧ (K p = 1 ∨ K p = 5 ∨ K p = 6 → ¬ V (N p) < 0 ∧ ¬ 5 < V (N p)) ∧ (K p = 1 → ¬ V (N (N p)) < 1 ∧ ¬ 20 < V (N (N p))) ∧ (K p = 5 → ¬ V (N (N p)) < 1 ∧ ¬ 1000 < V (N (N p))) ∧ (K p = 4 → ¬ V (N p) < 1 ∧ ¬ 200 < V (N p)) ∧ (K p = 7 → ¬ V (N p) < 1 ∧ ¬ 99 < V (N p)) ∧ (K p = 10 → (15 ≤ K (N p) ∧ K (N p) ≤ 19) ∧ (K (N p) = 17 ∨ K (N p) = 18 → ¬ V (N (N p)) < 0 ∧ ¬ 5 < V (N (N p))))
noncomputable def GN (K V : Nat → Int32) (N : Nat → Nat) (T : TT) (n : Nat) (δ : Nat → Nat) (j : Nat) : Prop := GC K V N (T 0 j) ∧ δ j ≤ 8 ∧ (8 ≤ K (T 0 j) → δ j ≤ 7) ∧ lnk n δ (δ j + 1) (T 1 j) ∧ lnk n δ (δ j + 1) (T 2 j) ∧ lnk n δ (δ j) (T 3 j)
theorem GN.mo {T T' : TT} {n n' j : Nat} {δ δ' : Nat → Nat} (h : GN K V N T n δ j) (hj : j < n) (hn : n ≤ n') (hd : ∀ i : Nat, i < n → δ' i = δ i) (hT : ∀ k : Nat, T' k j = T k j) : GN K V N T' n' δ' j := by
  obtain ⟨h1, h2, h3, h4, h5, h6⟩ := h
  unfold GN
  rw [hT 0, hT 1, hT 2, hT 3, hd j hj]
  exact ⟨h1, h2, h3, h4.mo hn hd, h5.mo hn hd, h6.mo hn hd⟩
theorem gc_pl {u : SG} (hk : 1 ≤ K u.1 ∧ K u.1 ≤ 12) (h8 : K u.1 < 8) (h : (gpa K N 59 (gpl K V N (K u.1) (gad N u))).2.2.1 = 0) : GC K V N u.1 := by
  have h := (gpa_ok h).1
  have g1 : K u.1 = 1 → (¬ V (N u.1) < 0 ∧ ¬ 5 < V (N u.1)) ∧ ¬ V (N (N u.1)) < 1 ∧ ¬ 20 < V (N (N u.1)) := fun e => by
    rw [e] at h
    have a := gnu_ok (show (gnu K V N 1 20 (gnu K V N 0 5 (gad N u))).2.2.1 = 0 from h)
    have b := gnu_ok a.1
    have c := a.2.2
    rw [b.2.1] at c
    exact ⟨b.2.2, c⟩
  have g5 : K u.1 = 5 → (¬ V (N u.1) < 0 ∧ ¬ 5 < V (N u.1)) ∧ ¬ V (N (N u.1)) < 1 ∧ ¬ 1000 < V (N (N u.1)) := fun e => by
    rw [e] at h
    have a := gnu_ok (show (gnu K V N 1 1000 (gnu K V N 0 5 (gad N u))).2.2.1 = 0 from h)
    have b := gnu_ok a.1
    have c := a.2.2
    rw [b.2.1] at c
    exact ⟨b.2.2, c⟩
  refine ⟨hk, fun e => ?_, fun e => (g1 e).2, fun e => (g5 e).2, fun e => ?_, fun e => ?_, fun e => absurd h8 (by rw [e]; decide)⟩
  · rcases e with e | e | e
    · exact (g1 e).1
    · exact (g5 e).1
    · rw [e] at h
      exact (gnu_ok (show (gnu K V N 0 5 (gad N u)).2.2.1 = 0 from h)).2.2
  · rw [e] at h
    exact (gnu_ok (show (gnu K V N 1 200 (gad N u)).2.2.1 = 0 from h)).2.2
  · rw [e] at h
    exact (gnu_ok (show (gnu K V N 1 99 (gad N u)).2.2.1 = 0 from h)).2.2
theorem gte_ok {q : SG} (h : (gte K V N q).2.2.1 = 0) : q.2.2.1 = 0 ∧ (15 ≤ K q.1 ∧ K q.1 ≤ 19) ∧ (K q.1 = 17 ∨ K q.1 = 18 → ¬ V (N q.1) < 0 ∧ ¬ 5 < V (N q.1)) := by
  have a : (gte2 K V N (K q.1) (gte1 K N q)).2.2.1 = 0 := (gpa_ok (gnu_ok (show (gnu K V N 0 9999 (gpa K N (if K (gte2 K V N (K q.1) (gte1 K N q)).1 = 60 then 60 else 61) (gte2 K V N (K q.1) (gte1 K N q)))).2.2.1 = 0 from h)).1).1
  have b : (gte1 K N q).2.2.1 = 0 ∧ (K q.1 = 17 ∨ K q.1 = 18 → ¬ V (gte1 K N q).1 < 0 ∧ ¬ 5 < V (gte1 K N q).1) := by
    unfold gte2 at a
    by_cases c : K q.1 = 17 ∨ K q.1 = 18
    · rw [if_pos c] at a
      have := gnu_ok a
      exact ⟨this.1, fun _ => this.2.2⟩
    · rw [if_neg c] at a
      exact ⟨a, fun e => absurd e c⟩
  have c := gpa_ok (show (gpa K N (K q.1) (if K q.1 < 15 ∨ 19 < K q.1 then grf 1 q else q)).2.2.1 = 0 from b.1)
  by_cases r : K q.1 < 15 ∨ 19 < K q.1
  · rw [if_pos r] at c
    exact (grf_ok (by decide) c.1).elim
  · rw [if_neg r] at c
    refine ⟨c.1, ⟨nlt_le (fun e => r (Or.inl e)), nlt_le (fun e => r (Or.inr e))⟩, fun e => ?_⟩
    have d := b.2 e
    have e1 : (gte1 K N q).1 = N q.1 := by
      have c2 := c.2.2
      show (gpa K N (K q.1) (if K q.1 < 15 ∨ 19 < K q.1 then grf 1 q else q)).1 = N q.1
      rw [if_neg r]
      exact c2
    rw [e1] at d
    exact d
theorem gc_bu {u : SG} (hk : 1 ≤ K u.1 ∧ K u.1 ≤ 12) (h8 : ¬ K u.1 < 8) (h : K u.1 = 10 → (gte K V N (gad N u)).2.2.1 = 0) : GC K V N u.1 := by
  have ne : ∀ k : Int32, k < 8 → ¬ K u.1 = k := fun k hk e => h8 (by rw [e]; exact hk)
  exact ⟨hk, fun e => by rcases e with e | e | e <;> exact absurd e (ne _ (by decide)), fun e => absurd e (ne _ (by decide)), fun e => absurd e (ne _ (by decide)), fun e => absurd e (ne _ (by decide)), fun e => absurd e (ne _ (by decide)), fun e => (gte_ok (h e)).2⟩
theorem gob_ok {d : Nat} {q : SG} (h : (gob K N d q).2.2.1 = 0) : q.2.2.1 = 0 ∧ d < 8 := by
  have c := gpa_ok (show (gpa K N 123 (if K q.1 = 123 ∧ 8 ≤ d then grf 2 q else q)).2.2.1 = 0 from h)
  by_cases r : K q.1 = 123 ∧ 8 ≤ d
  · rw [if_pos r] at c
    exact (grf_ok (by decide) c.1).elim
  · rw [if_neg r] at c
    exact ⟨c.1, Nat.lt_of_not_le (fun e => r ⟨c.2.1, e⟩)⟩
theorem tset_ne {T : TT} {k j v k' j' : Nat} (h : ¬ (k' = k ∧ j' = j)) : tset T k j v k' j' = T k' j' := if_neg h
theorem tset_at {T : TT} {k j v : Nat} : tset T k j v k j = v := if_pos ⟨rfl, rfl⟩
theorem tnew_ne {T : TT} {j p k' j' : Nat} (h : ¬ j' = j) : tnew T j p k' j' = T k' j' := if_neg h
theorem tnew_at {T : TT} {j p k' : Nat} : tnew T j p k' j = if k' = 0 then p else 0 := if_pos rfl
theorem tnx_ne {T : TT} {la k k' j' : Nat} (h : ¬ (k' = 3 ∧ la = j' + 1)) : tnx T la k k' j' = T k' j' := by
  unfold tnx
  by_cases e : la = 0
  · rw [if_pos e]
  · rw [if_neg e]; exact tset_ne (fun g => h ⟨g.1, by omega⟩)
theorem tnx_at {T : TT} {k j' : Nat} : tnx T (j' + 1) k 3 j' = k + 1 := by
  unfold tnx
  rw [if_neg (by omega)]
  exact tset_at
/-- what is known of a reading from u to w -/
noncomputable def GK (K V : Nat → Int32) (N : Nat → Nat) (m d la : Nat) (u w : SGT) (δ δ' : Nat → Nat) : Prop :=
  (u.1.2.2.1 = 0 ∧ u.1.2.1 ≤ w.1.2.1) ∧ (∀ j : Nat, j < u.1.2.1 → δ' j = δ j) ∧ (∀ k j : Nat, j < u.1.2.1 → ¬ (m = 0 ∧ k = 3 ∧ la = j + 1) → w.2 k j = u.2 k j)
  ∧ (m = 0 → ∀ j : Nat, j < u.1.2.1 → la = j + 1 → w.2 3 j = if u.1.2.1 = w.1.2.1 then u.2 3 j else u.1.2.1 + 1)
  ∧ (∀ j : Nat, u.1.2.1 ≤ j → j < w.1.2.1 → GN K V N w.2 w.1.2.1 δ' j)
  ∧ (u.1.2.1 < w.1.2.1 → δ' u.1.2.1 = if m = 2 then d + 1 else d) ∧ (m = 1 → u.1.2.1 < w.1.2.1 ∧ w.2 3 u.1.2.1 = 0) ∧ (m = 2 → d < 8)
/-- a block hung into step k -/
theorem thd_lnk {n m : Nat} {δ : Nat → Nat} {e : Nat} (h : n ≤ m) (hd : n < m → δ n = e) : lnk m δ e (thd n m) := by
  unfold thd
  by_cases c : n = m
  · rw [if_pos c]; exact Or.inl rfl
  · rw [if_neg c]; exact Or.inr ⟨n, rfl, by omega, hd (by omega)⟩
theorem gt_ok : ∀ (n m d la : Nat) (u w : SGT), gt K V N n m d la u = some w → w.1.2.2.1 = 0 → d ≤ 8 → m ≤ 2 → (m = 1 → 1 ≤ K u.1.1 ∧ K u.1.1 ≤ 12) → (m = 0 → la ≤ u.1.2.1) → ∀ δ : Nat → Nat, ∃ δ' : Nat → Nat, GK K V N m d la u w δ δ' := by
  intro n
  induction n with
  | zero => intro m d la u w h; cases h
  | succ n ih =>
    intro m d la u w h h0 hd hm hk hla δ
    match m with
    | 0 =>
      unfold gt at h
      by_cases c : u.1.2.2.1 = 0 ∧ 1 ≤ K u.1.1 ∧ K u.1.1 ≤ 12
      · rw [if_pos c] at h
        obtain ⟨a, h1, h2⟩ := bindT_some h
        have n2 := (EvT.nd ⟨n, h2⟩).1
        have n2 : a.1.2.1 ≤ w.1.2.1 := n2
        have a0 : a.1.2.2.1 = 0 := by
          by_cases e : a.1.2.2.1 = 0
          · exact e
          · have q := EvT.one ⟨n, h2⟩ (EvT.fx0 (s := (a.1, tnx a.2 la u.1.2.1)) e)
            rw [q] at h0
            exact absurd h0 e
        obtain ⟨δ1, b1, b2, b3, b4, b5, b6, b7, b8⟩ := ih 1 d 0 u a h1 a0 hd (by omega) (fun _ => c.2) (fun e => absurd e (by decide)) δ
        have hn := (b7 rfl).1
        have hla := hla rfl
        obtain ⟨δ2, c1, c2, c3, c4, c5, c6, c7, c8⟩ := ih 0 d (u.1.2.1 + 1) (a.1, tnx a.2 la u.1.2.1) w h2 h0 hd (by omega) (fun e => absurd e (by decide)) (fun _ => hn) δ1
        have c2 : ∀ j : Nat, j < a.1.2.1 → δ2 j = δ1 j := c2
        have c3 : ∀ k j : Nat, j < a.1.2.1 → ¬ (0 = 0 ∧ k = 3 ∧ u.1.2.1 + 1 = j + 1) → w.2 k j = tnx a.2 la u.1.2.1 k j := c3
        have c4 : ∀ j : Nat, j < a.1.2.1 → u.1.2.1 + 1 = j + 1 → w.2 3 j = if a.1.2.1 = w.1.2.1 then tnx a.2 la u.1.2.1 3 j else a.1.2.1 + 1 := c4 rfl
        have c5 : ∀ j : Nat, a.1.2.1 ≤ j → j < w.1.2.1 → GN K V N w.2 w.1.2.1 δ2 j := c5
        have c6 : a.1.2.1 < w.1.2.1 → δ2 a.1.2.1 = d := c6
        have hdu : δ2 u.1.2.1 = d := by rw [c2 _ hn]; exact b6 hn
        have e3 : lnk w.1.2.1 δ2 d (w.2 3 u.1.2.1) := by
          rw [c4 _ hn rfl]
          by_cases e : a.1.2.1 = w.1.2.1
          · rw [if_pos e, tnx_ne (by omega), (b7 rfl).2]; exact Or.inl rfl
          · rw [if_neg e]; exact Or.inr ⟨_, rfl, by omega, c6 (by omega)⟩
        refine ⟨δ2, ⟨c.1, by omega⟩, fun j hj => by rw [c2 j (by omega), b2 j hj], fun k j hj hne => ?_, fun _ j hj hla => ?_, fun j hj hjw => ?_, fun _ => hdu, fun e => absurd e (by decide), fun e => absurd e (by decide)⟩
        · rw [c3 k j (by omega) (by omega), tnx_ne (by omega)]
          exact b3 k j hj (fun e => absurd e.1 (by decide))
        · rw [if_neg (by omega), c3 3 j (by omega) (by omega), hla]
          exact tnx_at
        · by_cases e : a.1.2.1 ≤ j
          · exact c5 j e hjw
          · have hg := b5 j hj (by omega)
            by_cases e2 : j = u.1.2.1
            · subst e2
              obtain ⟨g1, g2, g3, g4, g5, g6⟩ := hg
              have q : ∀ k : Nat, ¬ k = 3 → w.2 k u.1.2.1 = a.2 k u.1.2.1 := fun k hk => by rw [c3 k _ hn (by omega), tnx_ne (by omega)]
              unfold GN
              rw [q 0 (by omega), q 1 (by omega), q 2 (by omega), hdu]
              rw [b6 hn] at g2 g3 g4 g5
              have m1 : (if (1 : Nat) = 2 then d + 1 else d) = d := if_neg (by decide)
              rw [m1] at g2 g3 g4 g5
              exact ⟨g1, g2, g3, g4.mo n2 c2, g5.mo n2 c2, e3⟩
            · exact hg.mo (by omega) n2 c2 (fun k => by rw [c3 k j (by omega) (by omega), tnx_ne (by omega)])
      · rw [if_neg c] at h
        cases h
        exact ⟨δ, ⟨h0, Nat.le_refl _⟩, fun _ _ => rfl, fun _ _ _ _ => rfl, fun _ j _ _ => by rw [if_pos rfl], fun j h1 h2 => absurd h1 (by omega), fun h => absurd h (Nat.lt_irrefl _), fun e => absurd e (by decide), fun e => absurd e (by decide)⟩
    | 1 =>
      have hk := hk rfl
      unfold gt at h
      by_cases c1 : 300 ≤ u.1.2.1
      · rw [if_pos c1] at h; cases h
        exact (grf_ok (by decide) h0).elim
      rw [if_neg c1] at h
      -- the levels with the new step
      have hδ : ∀ j : Nat, j < u.1.2.1 → (fun i => if i = u.1.2.1 then d else δ i) j = δ j := fun j hj => if_neg (by omega)
      by_cases c2 : K u.1.1 < 8
      · rw [if_pos c2] at h; cases h
        have hn : (gpa K N 59 (gpl K V N (K u.1.1) (gad N u.1))).2.1 = u.1.2.1 + 1 := by rw [gpa_nd, gpl_nd]; rfl
        have hu : u.1.2.2.1 = 0 := by
          have h9 := (gpa_ok h0).1
          by_cases e : u.1.2.2.1 = 0
          · exact e
          · have : gpl K V N (K u.1.1) (gad N u.1) = gad N u.1 := gpl_fx e
            rw [this] at h9
            exact absurd h9 e
        refine ⟨fun i => if i = u.1.2.1 then d else δ i, ⟨hu, by show _ ≤ (gpa K N 59 (gpl K V N (K u.1.1) (gad N u.1))).2.1; omega⟩, hδ, fun k j hj _ => tnew_ne (by omega), fun e => absurd e (by decide), fun j h1 h2 => ?_, fun _ => ?_, fun _ => ⟨by show _ < (gpa K N 59 (gpl K V N (K u.1.1) (gad N u.1))).2.1; omega, ?_⟩, fun e => absurd e (by decide)⟩
        · have h2 : j < (gpa K N 59 (gpl K V N (K u.1.1) (gad N u.1))).2.1 := h2
          obtain rfl : j = u.1.2.1 := by omega
          have z : ∀ k : Nat, ¬ k = 0 → tnew u.2 u.1.2.1 u.1.1 k u.1.2.1 = 0 := fun k hk => by rw [tnew_at, if_neg hk]
          have z0 : tnew u.2 u.1.2.1 u.1.1 0 u.1.2.1 = u.1.1 := by rw [tnew_at, if_pos rfl]
          unfold GN
          show GC K V N (tnew u.2 u.1.2.1 u.1.1 0 u.1.2.1) ∧ (if u.1.2.1 = u.1.2.1 then d else δ u.1.2.1) ≤ 8 ∧ (8 ≤ K (tnew u.2 u.1.2.1 u.1.1 0 u.1.2.1) → (if u.1.2.1 = u.1.2.1 then d else δ u.1.2.1) ≤ 7) ∧ lnk _ _ _ (tnew u.2 u.1.2.1 u.1.1 1 u.1.2.1) ∧ lnk _ _ _ (tnew u.2 u.1.2.1 u.1.1 2 u.1.2.1) ∧ lnk _ _ _ (tnew u.2 u.1.2.1 u.1.1 3 u.1.2.1)
          rw [z0, z 1 (by decide), z 2 (by decide), z 3 (by decide), if_pos rfl]
          exact ⟨gc_pl hk c2 h0, hd, fun e => (le_nlt e c2).elim, Or.inl rfl, Or.inl rfl, Or.inl rfl⟩
        · show (if u.1.2.1 = u.1.2.1 then d else δ u.1.2.1) = _
          rw [if_pos rfl, if_neg (by decide)]
        · show tnew u.2 u.1.2.1 u.1.1 3 u.1.2.1 = 0
          rw [tnew_at, if_neg (by decide)]
      rw [if_neg c2] at h
      -- one block, the first behind the step; then maybe a second
      have one : ∀ (s : SG) (v : SGT), s.2.1 = u.1.2.1 + 1 → (s.2.2.1 = 0 → u.1.2.2.1 = 0) → (K u.1.1 = 10 → s.2.2.1 = 0 → (gte K V N (gad N u.1)).2.2.1 = 0) → gt K V N n 2 d 0 (s, (gst N u).2) = some v → v.1.2.2.1 = 0 → ∃ δ' : Nat → Nat, GK K V N 1 d la u (tl 1 u.1.2.1 (u.1.2.1 + 1) v) δ δ' ∧ d < 8 ∧ (tl 1 u.1.2.1 (u.1.2.1 + 1) v).2 2 u.1.2.1 = 0 := by
        intro s v hs hsu hs10 hv hv0
        obtain ⟨δ1, b1, b2, b3, -, b5, b6, -, b8⟩ := ih 2 d 0 _ v hv hv0 hd (by omega) (fun e => absurd e (by decide)) (fun e => absurd e (by decide)) (fun i => if i = u.1.2.1 then d else δ i)
        have b8 := b8 rfl
        have b1 : s.2.2.1 = 0 ∧ s.2.1 ≤ v.1.2.1 := b1
        have b2 : ∀ j : Nat, j < s.2.1 → δ1 j = if j = u.1.2.1 then d else δ j := b2
        have b3 : ∀ k j : Nat, j < s.2.1 → v.2 k j = tnew u.2 u.1.2.1 u.1.1 k j := fun k j hj => b3 k j hj (fun e => absurd e.1 (by decide))
        have b5 : ∀ j : Nat, s.2.1 ≤ j → j < v.1.2.1 → GN K V N v.2 v.1.2.1 δ1 j := b5
        have b6 : s.2.1 < v.1.2.1 → δ1 s.2.1 = d + 1 := b6
        rw [hs] at b1 b2 b3 b5 b6
        have hdu : δ1 u.1.2.1 = d := by rw [b2 _ (by omega), if_pos rfl]
        have w2 : ∀ k j : Nat, ¬ (k = 1 ∧ j = u.1.2.1) → (tl 1 u.1.2.1 (u.1.2.1 + 1) v).2 k j = v.2 k j := fun k j h => tset_ne h
        refine ⟨δ1, ⟨⟨hsu b1.1, by show _ ≤ v.1.2.1; omega⟩, fun j hj => by rw [b2 j (by omega), if_neg (by omega)], fun k j hj _ => by rw [w2 k j (by omega), b3 k j (by omega), tnew_ne (by omega)], fun e => absurd e (by decide), fun j h1 h2 => ?_, fun _ => by rw [if_neg (by decide)]; exact hdu, fun _ => ⟨by show _ < v.1.2.1; omega, ?_⟩, fun e => absurd e (by decide)⟩, b8, ?_⟩
        · have h2 : j < v.1.2.1 := h2
          show GN K V N (tl 1 u.1.2.1 (u.1.2.1 + 1) v).2 v.1.2.1 δ1 j
          by_cases e : j = u.1.2.1
          · subst e
            have t0 : (tl 1 u.1.2.1 (u.1.2.1 + 1) v).2 0 u.1.2.1 = u.1.1 := by rw [w2 0 _ (by omega), b3 0 _ (by omega), tnew_at, if_pos rfl]
            have t1 : (tl 1 u.1.2.1 (u.1.2.1 + 1) v).2 1 u.1.2.1 = thd (u.1.2.1 + 1) v.1.2.1 := tset_at
            have t2 : (tl 1 u.1.2.1 (u.1.2.1 + 1) v).2 2 u.1.2.1 = 0 := by rw [w2 2 _ (by omega), b3 2 _ (by omega), tnew_at, if_neg (by decide)]
            have t3 : (tl 1 u.1.2.1 (u.1.2.1 + 1) v).2 3 u.1.2.1 = 0 := by rw [w2 3 _ (by omega), b3 3 _ (by omega), tnew_at, if_neg (by decide)]
            unfold GN
            rw [t0, t1, t2, t3, hdu]
            exact ⟨gc_bu hk c2 (fun e => hs10 e b1.1), hd, fun _ => by omega, thd_lnk (by omega) b6, Or.inl rfl, Or.inl rfl⟩
          · exact (b5 j (by omega) h2).mo h2 (Nat.le_refl _) (fun _ _ => rfl) (fun k => w2 k j (by omega))
        · rw [w2 3 _ (by omega), b3 3 _ (by omega), tnew_at, if_neg (by decide)]
        · rw [w2 2 _ (by omega), b3 2 _ (by omega), tnew_at, if_neg (by decide)]
      have two : ∀ (c : Int32) (v x : SGT) (δ1 : Nat → Nat), GK K V N 1 d la u v δ δ1 → d < 8 → v.2 2 u.1.2.1 = 0 → gt K V N n 2 d 0 (gpa K N c v.1, v.2) = some x → x.1.2.2.1 = 0 → ∃ δ' : Nat → Nat, GK K V N 1 d la u (tl 2 u.1.2.1 v.1.2.1 x) δ δ' := by
        intro c v x δ1 hg hd8 hv2 hx hx0
        obtain ⟨a1, a2, a3, -, a5, a6, a7, -⟩ := hg
        have a7 := a7 rfl
        obtain ⟨δ2, b1, b2, b3, -, b5, b6, -, -⟩ := ih 2 d 0 _ x hx hx0 hd (by omega) (fun e => absurd e (by decide)) (fun e => absurd e (by decide)) δ1
        have b1 : (gpa K N c v.1).2.2.1 = 0 ∧ (gpa K N c v.1).2.1 ≤ x.1.2.1 := b1
        have b2 : ∀ j : Nat, j < (gpa K N c v.1).2.1 → δ2 j = δ1 j := b2
        have b3 : ∀ k j : Nat, j < (gpa K N c v.1).2.1 → x.2 k j = v.2 k j := fun k j hj => b3 k j hj (fun e => absurd e.1 (by decide))
        have b5 : ∀ j : Nat, (gpa K N c v.1).2.1 ≤ j → j < x.1.2.1 → GN K V N x.2 x.1.2.1 δ2 j := b5
        have b6 : (gpa K N c v.1).2.1 < x.1.2.1 → δ2 (gpa K N c v.1).2.1 = d + 1 := b6
        rw [gpa_nd] at b1 b2 b3 b5 b6
        have a6 := a6 a7.1
        rw [if_neg (by decide)] at a6
        have hdu : δ2 u.1.2.1 = d := by rw [b2 _ a7.1]; exact a6
        have w2 : ∀ k j : Nat, ¬ (k = 2 ∧ j = u.1.2.1) → (tl 2 u.1.2.1 v.1.2.1 x).2 k j = x.2 k j := fun k j h => tset_ne h
        refine ⟨δ2, ⟨a1.1, by show _ ≤ x.1.2.1; omega⟩, fun j hj => by rw [b2 j (by omega), a2 j hj], fun k j hj hne => by rw [w2 k j (by omega), b3 k j (by omega), a3 k j hj hne], fun e => absurd e (by decide), fun j h1 h2 => ?_, fun _ => by rw [if_neg (by decide)]; exact hdu, fun _ => ⟨by show _ < x.1.2.1; omega, ?_⟩, fun e => absurd e (by decide)⟩
        · have h2 : j < x.1.2.1 := h2
          show GN K V N (tl 2 u.1.2.1 v.1.2.1 x).2 x.1.2.1 δ2 j
          by_cases e : j < v.1.2.1
          · have hg := (a5 j h1 e).mo (T' := x.2) e b1.2 b2 (fun k => b3 k j e)
            by_cases e2 : j = u.1.2.1
            · subst e2
              obtain ⟨g1, g2, g3, g4, g5, g6⟩ := hg
              have t2 : (tl 2 u.1.2.1 v.1.2.1 x).2 2 u.1.2.1 = thd v.1.2.1 x.1.2.1 := tset_at
              unfold GN
              rw [w2 0 _ (by omega), w2 1 _ (by omega), w2 3 _ (by omega), t2]
              exact ⟨g1, g2, g3, g4, by rw [hdu]; exact thd_lnk b1.2 b6, g6⟩
            · exact hg.mo h2 (Nat.le_refl _) (fun _ _ => rfl) (fun k => w2 k j (by omega))
          · exact (b5 j (by omega) h2).mo h2 (Nat.le_refl _) (fun _ _ => rfl) (fun k => w2 k j (by omega))
        · rw [w2 3 _ (by omega), b3 3 _ a7.1]; exact a7.2
      have v0 : ∀ (c : Int32) (v x : SGT), gt K V N n 2 d 0 (gpa K N c v.1, v.2) = some x → x.1.2.2.1 = 0 → v.1.2.2.1 = 0 := fun c v x hx hx0 => by
        obtain ⟨δ2, b1, -⟩ := ih 2 d 0 _ x hx hx0 hd (by omega) (fun e => absurd e (by decide)) (fun e => absurd e (by decide)) δ
        exact (gpa_ok b1.1).1
      have nu : ∀ lo hi : Int32, (gnu K V N lo hi (gad N u.1)).2.1 = u.1.2.1 + 1 := fun lo hi => by rw [gnu_nd]; rfl
      have n10 : ∀ k : Int32, ¬ k = 10 → K u.1.1 = k → K u.1.1 = 10 → ∀ P : Prop, P := fun k h1 h2 h3 => (h1 (h2.symm.trans h3)).elim
      by_cases c3 : K u.1.1 = 8
      · rw [if_pos c3] at h
        obtain ⟨a, h1, h2⟩ := bindT_some h
        cases h2
        obtain ⟨δ', g, -, -⟩ := one _ a (nu 0 50) (fun e => (gnu_ok e).1) (fun e => n10 8 (by decide) c3 e _) h1 h0
        exact ⟨δ', g⟩
      rw [if_neg c3] at h
      by_cases c4 : K u.1.1 = 9
      · rw [if_pos c4] at h
        obtain ⟨a, h1, h2⟩ := bindT_some h
        cases h2
        obtain ⟨δ', g, -, -⟩ := one _ a (nu 0 200) (fun e => (gnu_ok e).1) (fun e => n10 9 (by decide) c4 e _) h1 h0
        exact ⟨δ', g⟩
      rw [if_neg c4] at h
      by_cases c5 : K u.1.1 = 10
      · rw [if_pos c5] at h
        obtain ⟨a, h1, h2⟩ := bindT_some h
        by_cases c6 : K a.1.1 = 13
        · rw [if_pos c6] at h2
          obtain ⟨b, h3, h4⟩ := bindT_some h2
          cases h4
          have a0 := v0 13 (tl 1 u.1.2.1 (u.1.2.1 + 1) a) b h3 h0
          obtain ⟨δ1, g, g2, g3⟩ := one (gte K V N (gad N u.1)) a (by rw [gte_nd]; rfl) (fun e => (gte_ok e).1) (fun _ e => e) h1 a0
          exact two 13 (tl 1 u.1.2.1 (u.1.2.1 + 1) a) b δ1 g g2 g3 h3 h0
        · rw [if_neg c6] at h2
          cases h2
          obtain ⟨δ', g, -, -⟩ := one (gte K V N (gad N u.1)) a (by rw [gte_nd]; rfl) (fun e => (gte_ok e).1) (fun _ e => e) h1 h0
          exact ⟨δ', g⟩
      · rw [if_neg c5] at h
        obtain ⟨a, h1, h2⟩ := bindT_some h
        obtain ⟨b, h3, h4⟩ := bindT_some h2
        cases h4
        have a0 := v0 _ (tl 1 u.1.2.1 (u.1.2.1 + 1) a) b h3 h0
        obtain ⟨δ1, g, g2, g3⟩ := one (gad N u.1) a rfl (fun e => e) (fun e => absurd e c5) h1 a0
        exact two _ (tl 1 u.1.2.1 (u.1.2.1 + 1) a) b δ1 g g2 g3 h3 h0
    | 2 =>
      unfold gt at h
      by_cases c1 : (gob K N d u.1).2.2.1 = 0
      · rw [if_pos c1] at h
        obtain ⟨a, h1, h2⟩ := bindT_some h
        cases h2
        have c2 := gob_ok c1
        obtain ⟨δ', b1, b2, b3, -, b5, b6, -, -⟩ := ih 0 (d + 1) 0 _ a h1 (gpa_ok h0).1 (by omega) (by omega) (fun e => absurd e (by decide)) (fun _ => Nat.zero_le _) δ
        have b1 : (gob K N d u.1).2.2.1 = 0 ∧ (gob K N d u.1).2.1 ≤ a.1.2.1 := b1
        have b2 : ∀ j : Nat, j < (gob K N d u.1).2.1 → δ' j = δ j := b2
        have b3 : ∀ k j : Nat, j < (gob K N d u.1).2.1 → a.2 k j = u.2 k j := fun k j hj => b3 k j hj (fun e => by omega)
        have b5 : ∀ j : Nat, (gob K N d u.1).2.1 ≤ j → j < a.1.2.1 → GN K V N a.2 a.1.2.1 δ' j := b5
        have b6 : (gob K N d u.1).2.1 < a.1.2.1 → δ' (gob K N d u.1).2.1 = d + 1 := b6
        rw [gob_nd] at b1 b2 b3 b5 b6
        have en : (gpa K N 125 a.1).2.1 = a.1.2.1 := gpa_nd
        refine ⟨δ', ⟨c2.1, by show _ ≤ (gpa K N 125 a.1).2.1; rw [en]; exact b1.2⟩, b2, fun k j hj _ => b3 k j hj, fun e => absurd e (by decide), fun j h1 h2 => ?_, fun h9 => ?_, fun e => absurd e (by decide), fun _ => c2.2⟩
        · have h2 : j < (gpa K N 125 a.1).2.1 := h2
          show GN K V N a.2 (gpa K N 125 a.1).2.1 δ' j
          rw [en] at h2 ⊢
          exact b5 j h1 h2
        · have h9 : u.1.2.1 < (gpa K N 125 a.1).2.1 := h9
          rw [en] at h9
          rw [if_pos rfl]
          exact b6 h9
      · rw [if_neg c1] at h; cases h
        exact absurd h0 c1
    | m + 3 => omega
end GOK

/-! the class's steps and the reference's nodes of one reading -/
noncomputable def TRc (K V : Nat → Int32) (N : Nat → Nat) (L : List Nat) (f : Nat → va_E) (ad : Nat → Nat) (T : TT) (n : Nat) : Prop := ∀ j : Nat, j < n → (ad j ∈ L ∧ sh (f (ad j)) = (0, 5, 0)) ∧ rd f (ad j) 0 = .int (K (T 0 j)) ∧ ctC K V N (T 0 j) (rd f (ad j) 1) (rd f (ad j) 2) (rd f (ad j) 3) (rd f (ad j) 4) ∧ rd f (ad j) 5 = lkv ad (T 1 j) ∧ rd f (ad j) 6 = lkv ad (T 2 j) ∧ rd f (ad j) 7 = lkv ad (T 3 j)
section JOIN
variable {K V : Nat → Int32} {N : Nat → Nat} {L : List Nat} {f : Nat → va_E} {ad δ : Nat → Nat} {T : TT} {n b : Nat} {s : AS}
theorem nI_m1 {q : Nat} (h : q < 2147483648) : ¬ nI q = -1 := fun e => by
  have := nI_toInt (n := q) (by omega)
  rw [e] at this
  have c : (-1 : Int32).toInt = -1 := by decide
  omega
theorem nlt_i1 {x c : Int32} {k : Int} (h : ¬ c < x) (hc : c.toInt = k) : x.toInt ≤ k := by
  rw [Int32.lt_iff_toInt_lt] at h; omega
end JOIN

/-! the reference's nodes of a reading, as they are laid -/
section TQS
variable {K V : Nat → Int32} {N : Nat → Nat}
theorem gt_0 : ∀ (n m d la : Nat) (u w : SGT), gt K V N n m d la u = some w → ∀ j : Nat, j < u.1.2.1 → w.2 0 j = u.2 0 j := by
  intro n
  induction n with
  | zero => intro m d la u w h; cases h
  | succ n ih =>
    intro m d la u w h j hj
    have hts : ∀ (T : TT) (k k' v : Nat), ¬ k = 0 → tset T k k' v 0 j = T 0 j := fun T k k' v hk => tset_ne (fun g => hk g.1.symm)
    have hx : ∀ (T : TT) (la k : Nat), tnx T la k 0 j = T 0 j := fun T la k => tnx_ne (fun g => absurd g.1 (by decide))
    have hw : tnew u.2 u.1.2.1 u.1.1 0 j = u.2 0 j := tnew_ne (by omega)
    have mo : ∀ (m d la : Nat) (a b : SGT), gt K V N n m d la a = some b → a.1.2.1 ≤ b.1.2.1 := fun m d la a b h => (EvT.nd ⟨n, h⟩).1
    match m with
    | 0 =>
      unfold gt at h
      by_cases c : u.1.2.2.1 = 0 ∧ 1 ≤ K u.1.1 ∧ K u.1.1 ≤ 12
      · rw [if_pos c] at h
        obtain ⟨a, h1, h2⟩ := bindT_some h
        have e2 := ih _ _ _ _ _ h2 j (by have := mo _ _ _ _ _ h1; show j < a.1.2.1; omega)
        rw [e2]
        show tnx a.2 la u.1.2.1 0 j = _
        rw [hx]
        exact ih _ _ _ _ _ h1 j hj
      · rw [if_neg c] at h; cases h; rfl
    | 1 =>
      unfold gt at h
      by_cases c1 : 300 ≤ u.1.2.1
      · rw [if_pos c1] at h; cases h; rfl
      rw [if_neg c1] at h
      by_cases c2 : K u.1.1 < 8
      · rw [if_pos c2] at h; cases h; exact hw
      rw [if_neg c2] at h
      have one : ∀ (s : SG) (v : SGT), s.2.1 = u.1.2.1 + 1 → gt K V N n 2 d 0 (s, (gst N u).2) = some v → (tl 1 u.1.2.1 (u.1.2.1 + 1) v).2 0 j = u.2 0 j ∧ j < v.1.2.1 := fun s v hs hv => by
        have e := ih _ _ _ _ _ hv j (by show j < s.2.1; omega)
        have m := mo _ _ _ _ _ hv
        have m : s.2.1 ≤ v.1.2.1 := m
        refine ⟨?_, by omega⟩
        show tset v.2 1 u.1.2.1 (thd (u.1.2.1 + 1) v.1.2.1) 0 j = _
        rw [hts _ _ _ _ (by decide), e]
        exact hw
      have two : ∀ (c : Int32) (v x : SGT), v.2 0 j = u.2 0 j → j < v.1.2.1 → gt K V N n 2 d 0 (gpa K N c v.1, v.2) = some x → (tl 2 u.1.2.1 v.1.2.1 x).2 0 j = u.2 0 j := fun c v x h1 h2 h3 => by
        have e := ih _ _ _ _ _ h3 j (by show j < (gpa K N c v.1).2.1; rw [gpa_nd]; exact h2)
        show tset x.2 2 u.1.2.1 (thd v.1.2.1 x.1.2.1) 0 j = _
        rw [hts _ _ _ _ (by decide), e]
        exact h1
      have nu : ∀ lo hi : Int32, (gnu K V N lo hi (gad N u.1)).2.1 = u.1.2.1 + 1 := fun lo hi => by rw [gnu_nd]; rfl
      by_cases c3 : K u.1.1 = 8
      · rw [if_pos c3] at h
        obtain ⟨a, h1, h2⟩ := bindT_some h
        cases h2
        exact (one _ a (nu 0 50) h1).1
      rw [if_neg c3] at h
      by_cases c4 : K u.1.1 = 9
      · rw [if_pos c4] at h
        obtain ⟨a, h1, h2⟩ := bindT_some h
        cases h2
        exact (one _ a (nu 0 200) h1).1
      rw [if_neg c4] at h
      by_cases c5 : K u.1.1 = 10
      · rw [if_pos c5] at h
        obtain ⟨a, h1, h2⟩ := bindT_some h
        have o := one (gte K V N (gad N u.1)) a (by rw [gte_nd]; rfl) h1
        by_cases c6 : K a.1.1 = 13
        · rw [if_pos c6] at h2
          obtain ⟨b, h3, h4⟩ := bindT_some h2
          cases h4
          exact two 13 (tl 1 u.1.2.1 (u.1.2.1 + 1) a) b o.1 o.2 h3
        · rw [if_neg c6] at h2
          cases h2
          exact o.1
      · rw [if_neg c5] at h
        obtain ⟨a, h1, h2⟩ := bindT_some h
        obtain ⟨b, h3, h4⟩ := bindT_some h2
        cases h4
        have o := one (gad N u.1) a rfl h1
        exact two _ (tl 1 u.1.2.1 (u.1.2.1 + 1) a) b o.1 o.2 h3
    | m + 2 =>
      unfold gt at h
      by_cases c1 : (gob K N d u.1).2.2.1 = 0
      · rw [if_pos c1] at h
        obtain ⟨a, h1, h2⟩ := bindT_some h
        cases h2
        exact ih _ _ _ _ _ h1 j (by show j < (gob K N d u.1).2.1; rw [gob_nd]; exact hj)
      · rw [if_neg c1] at h; cases h; rfl
theorem EvT.t0 {m d la : Nat} {u w : SGT} (h : EvT K V N m d la u w) : ∀ j : Nat, j < u.1.2.1 → w.2 0 j = u.2 0 j := by
  obtain ⟨n, h⟩ := h
  exact gt_0 n m d la u w h
/-- kinds and links of the nodes -/
noncomputable def RM (K : Nat → Int32) (T : TT) (n : Nat) (kd inr oth nx : Nat → Int32) : Prop := ∀ j : Nat, j < n → kd (2400 + j) = K (T 0 j) - 1 ∧ inr (2400 + j) = lkm 2400 (T 1 j) ∧ oth (2400 + j) = lkm 2400 (T 2 j) ∧ nx (2400 + j) = lkm 2400 (T 3 j)
/-- their numbers, from node lo on -/
noncomputable def CM (K V : Nat → Int32) (N : Nat → Nat) (T : TT) (lo n : Nat) (on tw lk sg : Nat → Int32) : Prop := ∀ j : Nat, lo ≤ j → j < n → ctM K V N (T 0 j) (on (2400 + j)) (tw (2400 + j)) (lk (2400 + j)) (sg (2400 + j))
noncomputable def KP4 (n : Nat) (on tw lk sg on' tw' lk' sg' : Nat → Int32) : Prop := ∀ x : Nat, x < 2400 + n → on' x = on x ∧ tw' x = tw x ∧ lk' x = lk x ∧ sg' x = sg x
noncomputable def TQ (K V : Nat → Int32) (N : Nat → Nat) (T : TT) (lo n : Nat) (on0 tw0 lk0 sg0 kd on tw lk sg inr oth nx : Nat → Int32) : Prop := RM K T n kd inr oth nx ∧ CM K V N T lo n on tw lk sg ∧ KP4 lo on0 tw0 lk0 sg0 on tw lk sg
variable {T T1 T2 : TT} {lo n n1 n2 k0 x p la : Nat} {o0 w0 l0 s0 kd on tw lk sg inr oth nx kd2 on2 tw2 lk2 sg2 inr2 oth2 nx2 : Nat → Int32}
theorem TQ.rf (h : RM K T n kd inr oth nx) : TQ K V N T n n on tw lk sg kd on tw lk sg inr oth nx := ⟨h, fun j h1 h2 => absurd h1 (by omega), fun _ _ => ⟨rfl, rfl, rfl, rfl⟩⟩
theorem TQ.tr (h1 : TQ K V N T1 lo n1 o0 w0 l0 s0 kd on tw lk sg inr oth nx) (h2 : TQ K V N T2 n1 n2 on tw lk sg kd2 on2 tw2 lk2 sg2 inr2 oth2 nx2) (h0 : ∀ j : Nat, j < n1 → T2 0 j = T1 0 j) (hl : lo ≤ n1) : TQ K V N T2 lo n2 o0 w0 l0 s0 kd2 on2 tw2 lk2 sg2 inr2 oth2 nx2 := by
  refine ⟨h2.1, fun j g1 g2 => ?_, fun j g => ?_⟩
  · by_cases e : n1 ≤ j
    · exact h2.2.1 j e g2
    · obtain ⟨q1, q2, q3, q4⟩ := h2.2.2 (2400 + j) (by omega)
      rw [q1, q2, q3, q4, h0 j (by omega)]
      exact h1.2.1 j g1 (by omega)
  · obtain ⟨q1, q2, q3, q4⟩ := h2.2.2 j (by omega)
    obtain ⟨p1, p2, p3, p4⟩ := h1.2.2 j g
    exact ⟨q1.trans p1, q2.trans p2, q3.trans p3, q4.trans p4⟩
theorem upd_p {f : Nat → Int32} {k j : Nat} {v : Int32} (h : ¬ j = k) : upd f (2400 + k) v (2400 + j) = f (2400 + j) := if_neg (by omega)
theorem TQ.n0 (h : TQ K V N T lo n o0 w0 l0 s0 kd on tw lk sg inr oth nx) : TQ K V N (tnx T 0 x) lo n o0 w0 l0 s0 kd on tw lk sg inr oth nx := h
theorem RM.new (h : RM K T n kd inr oth nx) {y1 y2 y3 y4 : Nat} (e1 : y1 = 2400 + n) (e2 : y2 = 2400 + n) (e3 : y3 = 2400 + n) (e4 : y4 = 2400 + n) {v : Int32} (hv : v = K p - 1) : RM K (tnew T n p) (n + 1) (upd kd y1 v) (upd inr y2 (-1)) (upd oth y3 (-1)) (upd nx y4 (-1)) := by
  subst e1; subst e2; subst e3; subst e4; subst hv
  intro j hj
  by_cases e : j = n
  · subst e
    rw [tnew_at, tnew_at, tnew_at, tnew_at]
    exact ⟨if_pos rfl, if_pos rfl, if_pos rfl, if_pos rfl⟩
  · rw [tnew_ne e, tnew_ne e, tnew_ne e, tnew_ne e, upd_p e, upd_p e, upd_p e, upd_p e]
    exact h j (by omega)
noncomputable def KP3 (f1 f2 f3 g1 g2 g3 : Nat → Int32) : Prop := ∀ x : Nat, x < 2400 → g1 x = f1 x ∧ g2 x = f2 x ∧ g3 x = f3 x
theorem KP3.rf {f1 f2 f3 : Nat → Int32} : KP3 f1 f2 f3 f1 f2 f3 := fun _ _ => ⟨rfl, rfl, rfl⟩
theorem KP3.tr {f1 f2 f3 g1 g2 g3 h1 h2 h3 : Nat → Int32} (a : KP3 f1 f2 f3 g1 g2 g3) (b : KP3 g1 g2 g3 h1 h2 h3) : KP3 f1 f2 f3 h1 h2 h3 := fun x hx => ⟨(b x hx).1.trans (a x hx).1, (b x hx).2.1.trans (a x hx).2.1, (b x hx).2.2.trans (a x hx).2.2⟩
theorem KP4.rf : KP4 n on tw lk sg on tw lk sg := fun _ _ => ⟨rfl, rfl, rfl, rfl⟩
/-- what follows a step's word -/
noncomputable def RST (K V : Nat → Int32) (N : Nat → Nat) (w : Int32) (d k : Nat) (u r : SGT) : Prop := (w < 8 ∧ r = (gpa K N 59 (gpl K V N w u.1), u.2)) ∨ (¬ w < 8 ∧ BUT K V N w d k u r)
theorem RST.ev {d la : Nat} {s r : SGT} (h : ¬ 300 ≤ s.1.2.1) (hb : RST K V N (K s.1.1) d s.1.2.1 (gst N s) r) : EvT K V N 1 d la s r := by
  rcases hb with ⟨h1, rfl⟩ | ⟨h1, h2⟩
  · exact EvT.plain h h1
  · exact EvT.built h h1 h2
theorem KP4.tr (h : KP4 n o0 w0 l0 s0 on tw lk sg) (h2 : KP4 n on tw lk sg on2 tw2 lk2 sg2) : KP4 n o0 w0 l0 s0 on2 tw2 lk2 sg2 := fun j hj => by
  obtain ⟨a1, a2, a3, a4⟩ := h j hj
  obtain ⟨b1, b2, b3, b4⟩ := h2 j hj
  exact ⟨b1.trans a1, b2.trans a2, b3.trans a3, b4.trans a4⟩
theorem TQ.kp (h : TQ K V N T lo n on tw lk sg kd2 on2 tw2 lk2 sg2 inr2 oth2 nx2) (hk : KP4 lo o0 w0 l0 s0 on tw lk sg) : TQ K V N T lo n o0 w0 l0 s0 kd2 on2 tw2 lk2 sg2 inr2 oth2 nx2 := ⟨h.1, h.2.1, hk.tr h.2.2⟩
end TQS

