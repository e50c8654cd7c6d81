/-- a loop of the runner: what holds, how it goes on, how it has ended -/
noncomputable def LPx (P0 go : AS → Prop) (fi : Int32 → AS → Prop) (oc : Int32) (n : Nat) : Prop := ∃ s1 : AS, P0 s1 ∧ (oc = 0 → go s1 ∧ ((s1.1 39).toInt - (s1.1 40).toInt).toNat + 1 < n) ∧ (¬ oc = 0 → ∃ e : Int32, oc = cO e ∧ fi e s1) ∧ 0 < n
theorem LPx.z {P0 go : AS → Prop} {fi : Int32 → AS → Prop} {oc : Int32} (h : LPx P0 go fi oc 0) : False := by
  obtain ⟨-, -, -, -, h⟩ := h
  omega
theorem lk.V {V : Nat → Prop} {dp : Nat → Nat} {sA : AS} {d : Nat} {x : Int32} (hL : LVS V dp sA) (h : lk V dp d x) : lkV V x := by
  rcases h with h | ⟨q, h1, h2, -⟩
  · exact Or.inl h
  · exact Or.inr ⟨q, h1, h2, (hL q h2).1⟩
theorem lk.nd {V : Nat → Prop} {dp : Nat → Nat} {sA : AS} {d : Nat} {x : Int32} (hL : LVS V dp sA) (h : lk V dp d x) (hx : ¬ x = -1) : V x.toNatClampNeg ∧ dp x.toNatClampNeg = d := by
  rcases h with h | ⟨q, h1, h2, h3⟩
  · exact absurd h hx
  · have := (hL q h2).1
    rw [h1, nI_clamp (by omega)]
    exact ⟨h2, h3⟩
theorem BR.inv {B : Int} {V : Nat → Prop} {k cq : Nat} {s : AS} {u : Int32 × AS} (h : BR k cq s u) (hB : B ≤ 10000000) (hI : IV B s) (hN : NV V s) (hq : (cq : Int) < (s.1 12).toInt) (hk : V k) : OKR B s u := by
  have row : ∀ (j : Nat) (s1 : AS) (w : Int32 × AS), (j = 31 ∨ j = 32 ∨ j = 33) → OKR B s (0, s1) → EvR 0 (s1.2 j k) 0 cq s1 w → OKR B s w := fun j s1 w hj h1 h2 =>
    (h2.inv hB h1.1 (hN.fx h1.2.1) (by rw [h1.2.1.2.2.1]; exact hq) (fun _ => ((hN.fx h1.2.1) k hk).2 j hj) (fun e => absurd rfl e)).tr h1.2.1 h1.2.2.2
  have h0 : OKR B s (0, s) := ⟨hI, FX.rf, okc 0 (by decide), Int.le_refl _⟩
  have st : ∀ w : Int32 × AS, OKR B s w → OKR B s (0, w.2) := fun w hw => ⟨hw.1, hw.2.1, okc 0 (by decide), hw.2.2.2⟩
  rcases h with ⟨-, h1⟩ | ⟨-, h1⟩ | ⟨-, h1⟩ | ⟨-, a, h1, h2⟩ | ⟨-, a, h1, h2⟩
  · exact h1.inv hB hI hN hq (fun e => absurd e (by decide)) (fun _ => hk)
  · exact h1.inv hB hI hN hq (fun e => absurd e (by decide)) (fun _ => hk)
  · by_cases g : hdA s k cq
    · rw [if_pos g] at h1; exact row 31 s u (Or.inl rfl) h0 h1
    · rw [if_neg g] at h1; exact row 32 s u (Or.inr (Or.inl rfl)) h0 h1
  · have q := row 31 s a (Or.inl rfl) h0 h1
    rcases h2 with ⟨-, rfl⟩ | ⟨-, h2⟩
    · exact q
    · exact row 32 a.2 u (Or.inr (Or.inl rfl)) (st a q) h2
  · have q := row 31 s a (Or.inl rfl) h0 h1
    rcases h2 with ⟨-, rfl⟩ | ⟨-, b, h2, rfl⟩
    · exact q
    · have q2 := row 32 a.2 b (Or.inr (Or.inl rfl)) (st a q) h2
      refine ⟨q2.1, q2.2.1, ?_, q2.2.2.2⟩
      show 0 ≤ (if b.1 = 0 then a.1 else b.1).toInt ∧ (if b.1 = 0 then a.1 else b.1).toInt ≤ 1000
      split
      · exact q.2.2.1
      · exact q2.2.2.1







