/-! the state built anew of the numbers and rows that a run changes -/
noncomputable def rbI (i : Nat → Int32) (x1 x2 x40 x41 x42 x43 : Int32) : Nat → Int32 := (va_up (va_up (va_up (va_up (va_up (va_up i 1 x1) 2 x2) 40 x40) 41 x41) 42 x42) 43 x43)
noncomputable def rbA (a : Nat → Nat → Int32) (y4 y5 y6 y7 y8 y9 y10 y11 y14 y15 y17 y18 : Nat → Int32) : Nat → Nat → Int32 := (va_up (va_up (va_up (va_up (va_up (va_up (va_up (va_up (va_up (va_up (va_up (va_up a 4 y4) 5 y5) 6 y6) 7 y7) 8 y8) 9 y9) 10 y10) 11 y11) 14 y14) 15 y15) 17 y17) 18 y18)
noncomputable def Eqx {α : Type} (K : List Nat) (f g : Nat → α) : Prop := ∀ j : Nat, j ∉ K → f j = g j
theorem Eqx.rf {α : Type} {K : List Nat} {f : Nat → α} : Eqx K f f := fun _ _ => rfl
theorem Eqx.up {α : Type} {K : List Nat} {f g : Nat → α} {k : Nat} {v : α} (hk : k ∈ K) (h : Eqx K f g) : Eqx K (va_up f k v) g := fun j hj => (va_up_ne _ _ (fun e => hj (by rw [e]; exact hk))).trans (h j hj)
theorem Eqx.tr {α : Type} {K : List Nat} {f g k : Nat → α} (h : Eqx K g f) (h2 : Eqx K k g) : Eqx K k f := fun j hj => (h2 j hj).trans (h j hj)
noncomputable abbrev KI : List Nat := [1, 2, 40, 41, 42, 43]
noncomputable abbrev KA : List Nat := [4, 5, 6, 7, 8, 9, 10, 11, 14, 15, 17, 18]
noncomputable def FK (s s' : AS) : Prop := Eqx KI s'.1 s.1 ∧ Eqx KA s'.2 s.2
theorem FK.rf {s : AS} : FK s s := ⟨Eqx.rf, Eqx.rf⟩
theorem FK.tr {s s1 s2 : AS} (h : FK s s1) (h2 : FK s1 s2) : FK s s2 := ⟨h.1.tr h2.1, h.2.tr h2.2⟩
theorem rbI_x {i : Nat → Int32} {x1 x2 x40 x41 x42 x43 : Int32} : Eqx KI (rbI i x1 x2 x40 x41 x42 x43) i := Eqx.up (by decide) (Eqx.up (by decide) (Eqx.up (by decide) (Eqx.up (by decide) (Eqx.up (by decide) (Eqx.up (by decide) (Eqx.rf))))))
theorem rbA_x {a : Nat → Nat → Int32} {y4 y5 y6 y7 y8 y9 y10 y11 y14 y15 y17 y18 : Nat → Int32} : Eqx KA (rbA a y4 y5 y6 y7 y8 y9 y10 y11 y14 y15 y17 y18) a := Eqx.up (by decide) (Eqx.up (by decide) (Eqx.up (by decide) (Eqx.up (by decide) (Eqx.up (by decide) (Eqx.up (by decide) (Eqx.up (by decide) (Eqx.up (by decide) (Eqx.up (by decide) (Eqx.up (by decide) (Eqx.up (by decide) (Eqx.up (by decide) (Eqx.rf))))))))))))
theorem FK.rb {i : Nat → Int32} {a : Nat → Nat → Int32} {x1 x2 x40 x41 x42 x43 : Int32} {y4 y5 y6 y7 y8 y9 y10 y11 y14 y15 y17 y18 : Nat → Int32} : FK (i, a) (rbI i x1 x2 x40 x41 x42 x43, rbA a y4 y5 y6 y7 y8 y9 y10 y11 y14 y15 y17 y18) := ⟨rbI_x, rbA_x⟩
theorem FK.co {s : AS} : FK s (coA s) := ⟨Eqx.up (by decide) (Eqx.rf), Eqx.rf⟩
theorem FK.h1 {s : AS} : FK s (h1A s) := ⟨Eqx.up (by decide) (Eqx.up (by decide) (Eqx.up (by decide) (Eqx.rf))), Eqx.up (by decide) (Eqx.up (by decide) (Eqx.up (by decide) (Eqx.up (by decide) (Eqx.up (by decide) (Eqx.rf)))))⟩
theorem FK.ai {s : AS} {c : Nat} : FK s (aiA s c) := ⟨Eqx.up (by decide) (Eqx.rf), Eqx.up (by decide) (Eqx.up (by decide) (Eqx.rf))⟩
theorem FK.wa {s : AS} {c : Nat} : FK s (waA s c) := ⟨Eqx.up (by decide) (Eqx.rf), Eqx.up (by decide) (Eqx.up (by decide) (Eqx.rf))⟩
theorem FK.fe {s : AS} {v : Nat} {n : Int32} : FK s (feA s v n) := ⟨Eqx.rf, Eqx.up (by decide) (Eqx.up (by decide) (Eqx.rf))⟩
theorem FK.lm {s : AS} {v : Nat} : FK s (lmA s v) := ⟨Eqx.rf, Eqx.up (by decide) (Eqx.up (by decide) (Eqx.up (by decide) (Eqx.rf)))⟩
theorem FK.di {s : AS} {c v : Nat} {m n : Int32} : FK s (diA s c v m n) := ⟨Eqx.rf, Eqx.up (by decide) (Eqx.up (by decide) (Eqx.up (by decide) (Eqx.up (by decide) (Eqx.up (by decide) (Eqx.up (by decide) (Eqx.up (by decide) (Eqx.up (by decide) (Eqx.up (by decide) (Eqx.up (by decide) (Eqx.rf))))))))))⟩
theorem FK.dp {s : AS} {c v : Nat} {m : Int32} : FK s (dpA s c v m).2 := by
  unfold dpA
  split
  · exact FK.rf
  · split
    · exact FK.rf
    · exact ⟨Eqx.up (by decide) (Eqx.up (by decide) (Eqx.rf)), FK.di.2⟩
theorem FK.re : ∀ (n : Nat) (s : AS), FK s (reA n s).2 := by
  intro n
  induction n with
  | zero => intro s; exact FK.rf
  | succ n ih =>
    intro s
    unfold reA
    split
    · exact FK.rf
    · exact FK.h1.tr (ih _)
noncomputable abbrev H01 (f : Nat → Int32) : Prop := ∀ k : Nat, k < 6 → f k = 0 ∨ f k = 1
theorem H01.u1 {f : Nat → Int32} {v : Nat} (h : H01 f) : H01 (upd f v 1) := fun k hk => by
  by_cases e : k = v
  · exact Or.inr (if_pos e)
  · rw [show upd f v 1 k = f k from if_neg e]; exact h k hk
theorem H01.ho {f : Nat → Int32} : H01 (ho10 f) := fun k hk => Or.inl (if_pos hk)
/-! matching -/
