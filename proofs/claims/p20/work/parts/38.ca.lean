/-! the state built anew of the numbers and rows that a run changes -/
noncomputable def rbI (i : Nat → Int32) (x1 x2 x40 x41 x42 x43 : Int32) : Nat → Int32 := (va_up (va_up (va_up (va_up (va_up (va_up i 1 x1) 2 x2) 40 x40) 41 x41) 42 x42) 43 x43)
noncomputable def rbA (a : Nat → Nat → Int32) (y4 y5 y6 y7 y8 y9 y10 y11 y14 y15 y17 y18 : Nat → Int32) : Nat → Nat → Int32 := (va_up (va_up (va_up (va_up (va_up (va_up (va_up (va_up (va_up (va_up (va_up (va_up a 4 y4) 5 y5) 6 y6) 7 y7) 8 y8) 9 y9) 10 y10) 11 y11) 14 y14) 15 y15) 17 y17) 18 y18)
noncomputable def Eqx {α : Type} (K : List Nat) (f g : Nat → α) : Prop := ∀ j : Nat, j ∉ K → f j = g j
theorem Eqx.rf {α : Type} {K : List Nat} {f : Nat → α} : Eqx K f f := fun _ _ => rfl
theorem Eqx.up {α : Type} {K : List Nat} {f g : Nat → α} {k : Nat} {v : α} (hk : k ∈ K) (h : Eqx K f g) : Eqx K (va_up f k v) g := fun j hj => (va_up_ne _ _ (fun e => hj (by rw [e]; exact hk))).trans (h j hj)
theorem Eqx.tr {α : Type} {K : List Nat} {f g k : Nat → α} (h : Eqx K g f) (h2 : Eqx K k g) : Eqx K k f := fun j hj => (h2 j hj).trans (h j hj)
noncomputable abbrev KI : List Nat := [1, 2, 40, 41, 42, 43]
noncomputable abbrev KA : List Nat := [4, 5, 6, 7, 8, 9, 10, 11, 14, 15, 17, 18]
noncomputable def FK (s s' : AS) : Prop := Eqx KI s'.1 s.1 ∧ Eqx KA s'.2 s.2
theorem FK.rf {s : AS} : FK s s := ⟨Eqx.rf, Eqx.rf⟩
theorem FK.tr {s s1 s2 : AS} (h : FK s s1) (h2 : FK s1 s2) : FK s s2 := ⟨h.1.tr h2.1, h.2.tr h2.2⟩
theorem rbI_x {i : Nat → Int32} {x1 x2 x40 x41 x42 x43 : Int32} : Eqx KI (rbI i x1 x2 x40 x41 x42 x43) i := Eqx.up (by decide) (Eqx.up (by decide) (Eqx.up (by decide) (Eqx.up (by decide) (Eqx.up (by decide) (Eqx.up (by decide) (Eqx.rf))))))
theorem rbA_x {a : Nat → Nat → Int32} {y4 y5 y6 y7 y8 y9 y10 y11 y14 y15 y17 y18 : Nat → Int32} : Eqx KA (rbA a y4 y5 y6 y7 y8 y9 y10 y11 y14 y15 y17 y18) a := Eqx.up (by decide) (Eqx.up (by decide) (Eqx.up (by decide) (Eqx.up (by decide) (Eqx.up (by decide) (Eqx.up (by decide) (Eqx.up (by decide) (Eqx.up (by decide) (Eqx.up (by decide) (Eqx.up (by decide) (Eqx.up (by decide) (Eqx.up (by decide) (Eqx.rf))))))))))))
theorem FK.rb {i : Nat → Int32} {a : Nat → Nat → Int32} {x1 x2 x40 x41 x42 x43 : Int32} {y4 y5 y6 y7 y8 y9 y10 y11 y14 y15 y17 y18 : Nat → Int32} : FK (i, a) (rbI i x1 x2 x40 x41 x42 x43, rbA a y4 y5 y6 y7 y8 y9 y10 y11 y14 y15 y17 y18) := ⟨rbI_x, rbA_x⟩
theorem rbI_of {f i : Nat → Int32} (h : Eqx KI f i) : f = rbI i (f 1) (f 2) (f 40) (f 41) (f 42) (f 43) := by
  funext j
  by_cases h43 : j = 43
  · rw [h43]; rfl
  by_cases h42 : j = 42
  · rw [h42]; rfl
  by_cases h41 : j = 41
  · rw [h41]; rfl
  by_cases h40 : j = 40
  · rw [h40]; rfl
  by_cases h2 : j = 2
  · rw [h2]; rfl
  by_cases h1 : j = 1
  · rw [h1]; rfl
  have hn : j ∉ KI := by simp only [KI, List.mem_cons, List.not_mem_nil, or_false]; omega
  exact (h j hn).trans (rbI_x j hn).symm
theorem rbA_of {f a : Nat → Nat → Int32} (h : Eqx KA f a) : f = rbA a (f 4) (f 5) (f 6) (f 7) (f 8) (f 9) (f 10) (f 11) (f 14) (f 15) (f 17) (f 18) := by
  funext j
  by_cases h18 : j = 18
  · rw [h18]; rfl
  by_cases h17 : j = 17
  · rw [h17]; rfl
  by_cases h15 : j = 15
  · rw [h15]; rfl
  by_cases h14 : j = 14
  · rw [h14]; rfl
  by_cases h11 : j = 11
  · rw [h11]; rfl
  by_cases h10 : j = 10
  · rw [h10]; rfl
  by_cases h9 : j = 9
  · rw [h9]; rfl
  by_cases h8 : j = 8
  · rw [h8]; rfl
  by_cases h7 : j = 7
  · rw [h7]; rfl
  by_cases h6 : j = 6
  · rw [h6]; rfl
  by_cases h5 : j = 5
  · rw [h5]; rfl
  by_cases h4 : j = 4
  · rw [h4]; rfl
  have hn : j ∉ KA := by simp only [KA, List.mem_cons, List.not_mem_nil, or_false]; omega
  exact (h j hn).trans (rbA_x j hn).symm
theorem rbI_eq {f i : Nat → Int32} {x1 x2 x40 x41 x42 x43 : Int32} (h : Eqx KI f i) : rbI f x1 x2 x40 x41 x42 x43 = rbI i x1 x2 x40 x41 x42 x43 := rbI_of (f := rbI f x1 x2 x40 x41 x42 x43) (h.tr rbI_x)
theorem rbA_eq {f a : Nat → Nat → Int32} {y4 y5 y6 y7 y8 y9 y10 y11 y14 y15 y17 y18 : Nat → Int32} (h : Eqx KA f a) : rbA f y4 y5 y6 y7 y8 y9 y10 y11 y14 y15 y17 y18 = rbA a y4 y5 y6 y7 y8 y9 y10 y11 y14 y15 y17 y18 := rbA_of (f := rbA f y4 y5 y6 y7 y8 y9 y10 y11 y14 y15 y17 y18) (h.tr rbA_x)
theorem rb_of {s s' : AS} {x1 x2 x40 x41 x42 x43 : Int32} {y4 y5 y6 y7 y8 y9 y10 y11 y14 y15 y17 y18 : Nat → Int32} (h : FK s s') (e1 : x1 = s'.1 1) (e2 : x2 = s'.1 2) (e40 : x40 = s'.1 40) (e41 : x41 = s'.1 41) (e42 : x42 = s'.1 42) (e43 : x43 = s'.1 43) (d4 : y4 = s'.2 4) (d5 : y5 = s'.2 5) (d6 : y6 = s'.2 6) (d7 : y7 = s'.2 7) (d8 : y8 = s'.2 8) (d9 : y9 = s'.2 9) (d10 : y10 = s'.2 10) (d11 : y11 = s'.2 11) (d14 : y14 = s'.2 14) (d15 : y15 = s'.2 15) (d17 : y17 = s'.2 17) (d18 : y18 = s'.2 18) : s' = (rbI s.1 x1 x2 x40 x41 x42 x43, rbA s.2 y4 y5 y6 y7 y8 y9 y10 y11 y14 y15 y17 y18) := by
  subst e1 e2 e40 e41 e42 e43 d4 d5 d6 d7 d8 d9 d10 d11 d14 d15 d17 d18
  exact Prod.ext (rbI_of h.1) (rbA_of h.2)
theorem rb_id {s : AS} : (rbI s.1 (s.1 1) (s.1 2) (s.1 40) (s.1 41) (s.1 42) (s.1 43), rbA s.2 (s.2 4) (s.2 5) (s.2 6) (s.2 7) (s.2 8) (s.2 9) (s.2 10) (s.2 11) (s.2 14) (s.2 15) (s.2 17) (s.2 18)) = s := (rb_of FK.rf rfl rfl rfl rfl rfl rfl rfl rfl rfl rfl rfl rfl rfl rfl rfl rfl rfl rfl).symm
theorem FK.co {s : AS} : FK s (coA s) := ⟨Eqx.up (by decide) (Eqx.rf), Eqx.rf⟩
theorem FK.h1 {s : AS} : FK s (h1A s) := ⟨Eqx.up (by decide) (Eqx.up (by decide) (Eqx.up (by decide) (Eqx.rf))), Eqx.up (by decide) (Eqx.up (by decide) (Eqx.up (by decide) (Eqx.up (by decide) (Eqx.up (by decide) (Eqx.rf)))))⟩
theorem FK.ai {s : AS} {c : Nat} : FK s (aiA s c) := ⟨Eqx.up (by decide) (Eqx.rf), Eqx.up (by decide) (Eqx.up (by decide) (Eqx.rf))⟩
theorem FK.wa {s : AS} {c : Nat} : FK s (waA s c) := ⟨Eqx.up (by decide) (Eqx.rf), Eqx.up (by decide) (Eqx.up (by decide) (Eqx.rf))⟩
theorem FK.fe {s : AS} {v : Nat} {n : Int32} : FK s (feA s v n) := ⟨Eqx.rf, Eqx.up (by decide) (Eqx.up (by decide) (Eqx.rf))⟩
theorem FK.lm {s : AS} {v : Nat} : FK s (lmA s v) := ⟨Eqx.rf, Eqx.up (by decide) (Eqx.up (by decide) (Eqx.up (by decide) (Eqx.rf)))⟩
theorem FK.di {s : AS} {c v : Nat} {m n : Int32} : FK s (diA s c v m n) := ⟨Eqx.rf, Eqx.up (by decide) (Eqx.up (by decide) (Eqx.up (by decide) (Eqx.up (by decide) (Eqx.up (by decide) (Eqx.up (by decide) (Eqx.up (by decide) (Eqx.up (by decide) (Eqx.up (by decide) (Eqx.up (by decide) (Eqx.rf))))))))))⟩
theorem FK.dp {s : AS} {c v : Nat} {m : Int32} : FK s (dpA s c v m).2 := by
  unfold dpA
  split
  · exact FK.rf
  · split
    · exact FK.rf
    · exact ⟨Eqx.up (by decide) (Eqx.up (by decide) (Eqx.rf)), FK.di.2⟩
theorem FK.re : ∀ (n : Nat) (s : AS), FK s (reA n s).2 := by
  intro n
  induction n with
  | zero => intro s; exact FK.rf
  | succ n ih =>
    intro s
    unfold reA
    split
    · exact FK.rf
    · exact FK.h1.tr (ih _)
theorem reA_lim {s : AS} {n : Nat} (h : s.1 40 = s.1 39) (hn : 0 < n) : reA n s = (1000, s) := by
  obtain ⟨m, rfl⟩ : ∃ m, n = m + 1 := ⟨n - 1, by omega⟩
  exact if_pos h
theorem reA_nx {s : AS} {n : Nat} (h : ¬ s.1 40 = s.1 39) (hn : 0 < n) : reA n s = reA (n - 1) (h1A s) := by
  obtain ⟨m, rfl⟩ : ∃ m, n = m + 1 := ⟨n - 1, by omega⟩
  exact if_neg h
theorem q_end {q : Nat} {nn ii : Int32} (hq : ii = nI q) (hqn : q ≤ nn.toNatClampNeg) (h : nn ≤ ii) : q = nn.toNatClampNeg := by
  have hb := nn.toInt_lt
  have hc : nn.toNatClampNeg = nn.toInt.toNat := rfl
  rw [Int32.le_iff_toInt_le, hq, nI_toInt (by omega)] at h
  omega
theorem q_lt {q : Nat} {nn ii : Int32} (hq : ii = nI q) (hqn : q ≤ nn.toNatClampNeg) (h : ¬ nn ≤ ii) : q < nn.toNatClampNeg := by
  have hb := nn.toInt_lt
  have hc : nn.toNatClampNeg = nn.toInt.toNat := rfl
  rw [Int32.le_iff_toInt_le, hq, nI_toInt (by omega)] at h
  omega
theorem vi_nI {x : Int32} {n : Nat} (h : vp_in x n) : x = nI x.toNatClampNeg := nI_cl (vp_in_iff.mp h).1
noncomputable abbrev H01 (f : Nat → Int32) : Prop := ∀ k : Nat, k < 6 → f k = 0 ∨ f k = 1
theorem H01.u1 {f : Nat → Int32} {v : Nat} (h : H01 f) : H01 (upd f v 1) := fun k hk => by
  by_cases e : k = v
  · exact Or.inr (if_pos e)
  · rw [show upd f v 1 k = f k from if_neg e]; exact h k hk
theorem H01.ho {f : Nat → Int32} : H01 (ho10 f) := fun k hk => Or.inl (if_pos hk)
theorem hd_y1 {s : AS} {k c : Nat} {v t : Int32} (h1 : s.2 30 k = 60) (hv : lkA s k c = v) (ht : t = s.2 28 k) (h : v < t) : hdA s k c := Or.inl ⟨h1, by rw [hv, ← ht]; exact h⟩
theorem hd_n1 {s : AS} {k c : Nat} {v t : Int32} (h1 : s.2 30 k = 60) (hv : lkA s k c = v) (ht : t = s.2 28 k) (h : ¬ v < t) : ¬ hdA s k c := fun g => by
  rcases g with g | g
  · exact h (by rw [← hv, ht]; exact g.2)
  · exact g.1 h1
theorem hd_y2 {s : AS} {k c : Nat} {v t : Int32} (h1 : ¬ s.2 30 k = 60) (hv : lkA s k c = v) (ht : t = s.2 28 k) (h : v = t) : hdA s k c := Or.inr ⟨h1, by rw [hv, ← ht]; exact h⟩
theorem hd_n2 {s : AS} {k c : Nat} {v t : Int32} (h1 : ¬ s.2 30 k = 60) (hv : lkA s k c = v) (ht : t = s.2 28 k) (h : ¬ v = t) : ¬ hdA s k c := fun g => by
  rcases g with g | g
  · exact h1 g.1
  · exact h (by rw [← hv, ht]; exact g.2)
/-! matching -/
theorem mtF_n {s : AS} {k n : Nat} {d : Int32} (h : ¬ (¬ n = k ∧ mtA s k n d)) : mtF s k d (n + 1) = mtF s k d n := if_neg h
theorem mtF_y {s : AS} {k n : Nat} {d : Int32} (h : ¬ n = k ∧ mtA s k n d) : mtF s k d (n + 1) = mtF s k d n ||| (1 <<< (nI n &&& 31)) := if_pos h
theorem mtF_0 {s : AS} {k : Nat} {d : Int32} (h : ¬ hsA s k d) : ∀ n : Nat, mtF s k d n = 0 := by
  intro n
  induction n with
  | zero => rfl
  | succ n ih => rw [mtF_n (fun g => h g.2.1)]; exact ih
theorem w01 {w : Int32} (h : w = 0 ∨ w = 1) : 0 ≤ w ∧ w ≤ 1 := by rcases h with rfl | rfl <;> decide
theorem nw01 {w : Int32} (h : 0 ≤ w ∧ w ≤ 1) (h0 : ¬ w = 0) (h1 : ¬ w = 1) : False := by
  rw [Int32.le_iff_toInt_le, Int32.le_iff_toInt_le] at h
  rw [← Int32.toInt_inj] at h0 h1
  have c0 : (0 : Int32).toInt = 0 := by decide
  have c1 : (1 : Int32).toInt = 1 := by decide
  omega
