/-! what a run leaves -/
theorem rv_fk : ∀ (n m : Nat) (x : Int32) (k c : Nat) (s : AS) (u : Int32 × AS), rv n m x k c s = some u → FK s u.2 := by
  intro n
  induction n with
  | zero => intro m x k c s u h; cases h
  | succ n ih =>
    intro m x k c s u h
    match m with
    | 0 =>
      unfold rv at h
      by_cases c1 : x = -1
      · rw [if_pos c1] at h; cases h; exact FK.rf
      rw [if_neg c1] at h
      obtain ⟨a, h1, h2⟩ := bindR_some h
      have q := ih _ _ _ _ _ _ h1
      by_cases c2 : a.1 = 0
      · rw [if_pos c2] at h2; exact q.tr (ih _ _ _ _ _ _ h2)
      · rw [if_neg c2] at h2; cases h2; exact q
    | 1 =>
      unfold rv at h
      by_cases c1 : s.1 40 = s.1 39
      · rw [if_pos c1] at h; cases h; exact FK.rf
      rw [if_neg c1] at h
      by_cases c2 : s.2 26 k < 7
      · rw [if_pos c2] at h; cases h; exact FK.co.tr FK.pl
      rw [if_neg c2] at h
      by_cases c3 : s.2 26 k = 7
      · rw [if_pos c3] at h; exact FK.co.tr (ih _ _ _ _ _ _ h)
      rw [if_neg c3] at h
      by_cases c4 : s.2 26 k = 8
      · rw [if_pos c4] at h; exact FK.co.tr (ih _ _ _ _ _ _ h)
      rw [if_neg c4] at h
      by_cases c5 : s.2 26 k = 9
      · rw [if_pos c5] at h; exact FK.co.tr (ih _ _ _ _ _ _ h)
      rw [if_neg c5] at h
      by_cases c6 : s.2 26 k = 10
      · rw [if_pos c6] at h
        obtain ⟨a, h1, h2⟩ := bindR_some h
        have q := FK.co.tr (ih _ _ _ _ _ _ h1)
        by_cases c7 : a.1 = 0 ∨ a.1 = 1000
        · rw [if_pos c7] at h2; cases h2; exact q
        · rw [if_neg c7] at h2; exact q.tr (ih _ _ _ _ _ _ h2)
      · rw [if_neg c6] at h
        obtain ⟨a, h1, h2⟩ := bindR_some h
        have q := FK.co.tr (ih _ _ _ _ _ _ h1)
        by_cases c7 : a.1 = 1000
        · rw [if_pos c7] at h2; cases h2; exact q
        · rw [if_neg c7] at h2
          obtain ⟨b, h3, h4⟩ := bindR_some h2
          have q2 := q.tr (ih _ _ _ _ _ _ h3)
          cases h4
          exact q2
    | 2 =>
      unfold rv at h
      by_cases c1 : x < s.2 27 k
      · rw [if_pos c1] at h
        by_cases c2 : s.1 40 = s.1 39
        · rw [if_pos c2] at h; cases h; exact FK.rf
        rw [if_neg c2] at h
        obtain ⟨a, h1, h2⟩ := bindR_some h
        have q := FK.co.tr (ih _ _ _ _ _ _ h1)
        by_cases c3 : a.1 = 0
        · rw [if_pos c3] at h2; exact q.tr (ih _ _ _ _ _ _ h2)
        · rw [if_neg c3] at h2; cases h2; exact q
      · rw [if_neg c1] at h; cases h; exact FK.rf
    | m + 3 =>
      unfold rv at h
      by_cases c2 : s.1 40 = s.1 39
      · rw [if_pos c2] at h; cases h; exact FK.rf
      rw [if_neg c2] at h
      by_cases c1 : s.2 27 k ≤ shA s c
      · rw [if_pos c1] at h; cases h; exact FK.co
      rw [if_neg c1] at h
      obtain ⟨a, h1, h2⟩ := bindR_some h
      have q := FK.co.tr (ih _ _ _ _ _ _ h1)
      by_cases c3 : a.1 = 0
      · rw [if_pos c3] at h2; exact q.tr (ih _ _ _ _ _ _ h2)
      · rw [if_neg c3] at h2; cases h2; exact q
theorem EvR.fk {m k c : Nat} {x : Int32} {s : AS} {u : Int32 × AS} (h : EvR m x k c s u) : FK s u.2 := by
  obtain ⟨n, h⟩ := h
  exact rv_fk n m x k c s u h
/-! what a call leaves of the state -/
theorem eqx_i {K : List Nat} {f g i2 : Nat → Int32} (hf : Eqx K f g) (h2 : Eqx (0 :: K) i2 g) (hk : ∀ k ∈ K, i2 k = f k) : ∀ j : Nat, j ≠ 0 → i2 j = f j := fun j hj => by
  by_cases h : j ∈ K
  · exact hk j h
  · rw [hf j h]
    exact h2 j (fun m => (List.mem_cons.mp m).elim hj h)
theorem eqx_a {K : List Nat} {f g a2 : Nat → Nat → Int32} (hf : Eqx K f g) (h2 : Eqx K a2 g) (hk : ∀ k ∈ K, a2 k = f k) : a2 = f := funext fun j => by
  by_cases h : j ∈ K
  · exact hk j h
  · rw [hf j h]
    exact h2 j h
theorem Eqx.mo {α : Type} {K K2 : List Nat} {f g : Nat → α} (h : Eqx K f g) (hs : ∀ k ∈ K, k ∈ K2) : Eqx K2 f g := fun j hj => h j (fun m => hj (hs j m))
noncomputable def FO (K KA : List Nat) (o : OP) (s : AS) : Prop := Eqx K o.2.2.1 s.1 ∧ Eqx KA o.2.2.2 s.2
section FXS
variable {s : AS} {v n k w m d r l : Int32}
theorem FO.rf {K KA : List Nat} {x y : Int32} : FO K KA (x, y, s) s := ⟨Eqx.rf, Eqx.rf⟩
theorem fx_ch : FO [3] [4] (chG v n s) s := by
  unfold chG
  split
  · split
    · exact FO.rf
    · exact ⟨Eqx.up (by decide) Eqx.rf, Eqx.up (by decide) Eqx.rf⟩
  · exact FO.rf
theorem fx_fd : FO [] [5, 7] (fdS v n s) s := by
  unfold fdS
  split
  · split
    · exact ⟨Eqx.rf, Eqx.up (by decide) (Eqx.up (by decide) Eqx.rf)⟩
    · exact FO.rf
  · exact FO.rf
theorem fx_lm : FO [] [5, 6, 7] (lmS v s) s := by
  unfold lmS
  split
  · exact ⟨Eqx.rf, Eqx.up (by decide) (Eqx.up (by decide) (Eqx.up (by decide) Eqx.rf))⟩
  · exact FO.rf
theorem fx_tr : FO [2] [14, 15, 16] (trS k w s) s := by
  unfold trS
  split
  · split
    · split
      · exact FO.rf
      · split
        · exact ⟨Eqx.up (by decide) Eqx.rf, Eqx.up (by decide) (Eqx.up (by decide) Eqx.rf)⟩
        · split
          · exact ⟨Eqx.up (by decide) Eqx.rf, Eqx.up (by decide) (Eqx.up (by decide) Eqx.rf)⟩
          · exact ⟨Eqx.up (by decide) Eqx.rf, Eqx.up (by decide) (Eqx.up (by decide) (Eqx.up (by decide) Eqx.rf))⟩
    · exact FO.rf
  · exact FO.rf
theorem fx_cl : FO [12] [13] (clS w s) s := by
  unfold clS
  split
  · exact FO.rf
  · exact ⟨Eqx.up (by decide) Eqx.rf, Eqx.up (by decide) Eqx.rf⟩
theorem FO.id {o : OP} (h : FO [] [] o s) : o.2.2 = s := Prod.ext (funext fun j => h.1 j (by simp)) (funext fun j => h.2 j (by simp))
end FXS
theorem GI.th {B : Int} {s s2 : AS} (h : GI B s) (e12 : s2.1 12 = s.1 12) (e1 : s2.1 1 = s.1 1) (e : ∀ j : Nat, j < 19 → s2.2 j = s.2 j) : GI B s2 := by
  obtain ⟨⟨h1, ⟨h2a, h2b⟩, h3, h4⟩, h5, h6⟩ := h
  refine ⟨⟨fun k hk => ?_, ⟨?_, fun k hk => ?_⟩, ?_, ?_⟩, fun k hk hk2 => ?_, ?_⟩
  · rw [e 4 (by omega), e 5 (by omega)]; exact h1 k hk
  · rw [e12]; exact h2a
  · rw [e12] at hk
    rw [e 13 (by omega), e 14 (by omega), e 15 (by omega), e 16 (by omega)]
    exact h2b k hk
  · rw [e1]; exact h3
  · rw [e1]; exact h4
  · rw [e12] at hk
    rw [e 14 (by omega), e 15 (by omega), e 16 (by omega), e 17 (by omega), e 18 (by omega)]
    exact h5 k hk hk2
  · rw [e 10 (by omega)]; exact h6
/-! recipes, each in its bank -/
noncomputable def TREb (L : List Nat) (f : Nat → va_E) (rc : Nat) (s : AS) (r : Nat) : Prop := (s.2 34 r = -1 ∧ ra f rc r = none) ∨ (¬ s.2 34 r = -1 ∧ ∃ (rb : Nat) (V : Nat → Prop) (ad dp : Nat → Nat), (∀ k : Nat, V k → 300 * r ≤ k ∧ k < 300 * r + 300) ∧ ra f rc r = some rb ∧ (rb ∈ L ∧ sh (f rb) = (0, 3, 0)) ∧ rd f rb 0 = lkr ad (if s.2 34 r = -2 then -1 else s.2 34 r) ∧ TRS V ad L f s ∧ LVS V dp s ∧ NV V s ∧ lk V dp 0 (if s.2 34 r = -2 then -1 else s.2 34 r))
section TRB
variable {L L2 : List Nat} {f f2 : Nat → va_E} {rc r : Nat} {s s2 : AS} {V : Nat → Prop} {ad dp : Nat → Nat}
theorem TREb.tr (h : TREb L f rc s r) : TREE L f rc s r := by
  rcases h with h | ⟨h0, rb, V, ad, dp, -, h1⟩
  · exact Or.inl h
  · exact Or.inr ⟨h0, rb, V, ad, dp, h1⟩
theorem TRS.go2 (h : TRS V ad L f s) (hE : Ext L f L2 f2) (hO : OF 5 [] L f f2) (hf : ∀ j k : Nat, V k → 26 ≤ j → j ≤ 33 → s2.2 j k = s.2 j k) : TRS V ad L2 f2 s2 := fun k hk => by
  obtain ⟨h1, h2⟩ := h k hk
  refine ⟨mem_ext h1 hE, ?_⟩
  have hr := hO _ h1.1 h1.2 (by simp)
  unfold SN at h2 ⊢
  rw [hr, hr, hr, hr, hr, hr, hr, hr, hf 26 k hk (by omega) (by omega), hf 27 k hk (by omega) (by omega), hf 28 k hk (by omega) (by omega), hf 29 k hk (by omega) (by omega), hf 30 k hk (by omega) (by omega), hf 31 k hk (by omega) (by omega), hf 32 k hk (by omega) (by omega), hf 33 k hk (by omega) (by omega)]
  exact h2
theorem LVS.go2 (h : LVS V dp s) (hf : ∀ j k : Nat, V k → 26 ≤ j → j ≤ 33 → s2.2 j k = s.2 j k) : LVS V dp s2 := fun k hk => by
  rw [hf 26 k hk (by omega) (by omega), hf 31 k hk (by omega) (by omega), hf 32 k hk (by omega) (by omega), hf 33 k hk (by omega) (by omega)]
  exact h k hk
theorem NV.go2 (h : NV V s) (hf : ∀ j k : Nat, V k → 26 ≤ j → j ≤ 33 → s2.2 j k = s.2 j k) : NV V s2 := fun k hk => by
  obtain ⟨h1, h2⟩ := h k hk
  refine ⟨?_, fun j hj => by rw [hf j k hk (by omega) (by omega)]; exact h2 j hj⟩
  unfold NVk at h1 ⊢
  rw [hf 26 k hk (by omega) (by omega), hf 27 k hk (by omega) (by omega), hf 28 k hk (by omega) (by omega), hf 29 k hk (by omega) (by omega)]
  exact h1
/-- a recipe that stays -/
theorem TREb.go (h : TREb L f rc s r) (hE : Ext L f L2 f2) (hO5 : OF 5 [] L f f2) (hO3 : OF 3 [] L f f2) (hr : ra f2 rc r = ra f rc r) (h34 : s2.2 34 r = s.2 34 r) (hf : ∀ j k : Nat, 300 * r ≤ k → k < 300 * r + 300 → 26 ≤ j → j ≤ 33 → s2.2 j k = s.2 j k) : TREb L2 f2 rc s2 r := by
  unfold TREb at h ⊢
  rw [hr, h34]
  rcases h with h | ⟨h0, rb, V, ad, dp, hV, h1, h2, h3, h4, h5, h6, h7⟩
  · exact Or.inl h
  · have q : ∀ j k : Nat, V k → 26 ≤ j → j ≤ 33 → s2.2 j k = s.2 j k := fun j k hk a b => hf j k (hV k hk).1 (hV k hk).2 a b
    exact Or.inr ⟨h0, rb, V, ad, dp, hV, h1, mem_ext h2 hE, (hO3 rb h2.1 h2.2 (by simp) 0).trans h3, h4.go2 hE hO5 q, h5.go2 q, h6.go2 q, h7⟩
theorem lk.both {V2 : Nat → Prop} {dp2 : Nat → Nat} {e e2 : Nat} {x : Int32} (h : lk V dp e x) (h2 : lk V2 dp2 e2 x) (hV : ∀ k : Nat, V k → k < 2700) (hV2 : ∀ k : Nat, V2 k → k < 2700) : lk (fun k => V k ∧ V2 k) dp e x := by
  rcases h with h | ⟨q, h1, h3, h4⟩
  · exact Or.inl h
  · rcases h2 with g | ⟨q2, g1, g3, -⟩
    · exact Or.inl g
    · have e : q = q2 := (nI_eq (by have := hV q h3; omega) (by have := hV2 q2 g3; omega)).mp (h1.symm.trans g1)
      subst e
      exact Or.inr ⟨q, h1, ⟨h3, g3⟩, h4⟩
end TRB
