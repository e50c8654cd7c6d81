/-- a token is laid behind the others -/
noncomputable def LAY (f f' : Nat → va_E) (ka sta vaa j : Nat) (kd sr va : Int32) : Prop := ia f' ka = upd (ia f ka) j kd ∧ ia f' sta = upd (ia f sta) j sr ∧ ia f' vaa = upd (ia f vaa) j va







theorem sv {x y : Int32} (h : some (Value.int x) = some (.int y)) : x = y := by cases h; rfl




theorem LAY.of {f fk f' : Nat → va_E} {ka sta vaa j : Nat} {kd sr va : Int32} (h1 : fk ka = f ka) (h2 : fk sta = f sta) (h3 : fk vaa = f vaa) (h : LAY fk f' ka sta vaa j kd sr va) : LAY f f' ka sta vaa j kd sr va := by
  unfold LAY at h ⊢
  rwa [ia_eq h1, ia_eq h2, ia_eq h3] at h
theorem LAY.to {f f' f2 : Nat → va_E} {ka sta vaa j : Nat} {kd sr va : Int32} (h1 : f2 ka = f' ka) (h2 : f2 sta = f' sta) (h3 : f2 vaa = f' vaa) (h : LAY f f' ka sta vaa j kd sr va) : LAY f f2 ka sta vaa j kd sr va := by
  unfold LAY at h ⊢
  rwa [ia_eq h1, ia_eq h2, ia_eq h3]





/-- the first j tokens are laid -/
noncomputable def TKp (f : Nat → va_E) (ka sta vaa : Nat) (tt : Nat → Int32) (ln j : Nat) : Prop := ∀ x : Nat, x < j → ia f ka x = Kp tt ln (Sj tt ln x) ∧ ia f sta x = nI (Sj tt ln x) ∧ ia f vaa x = Vp tt ln (Sj tt ln x)
theorem TKp.go {f f' : Nat → va_E} {ka sta vaa ln j : Nat} {tt : Nat → Int32} (h : TKp f ka sta vaa tt ln j) (h1 : f' ka = f ka) (h2 : f' sta = f sta) (h3 : f' vaa = f vaa) : TKp f' ka sta vaa tt ln j := by
  unfold TKp
  rw [ia_eq h1, ia_eq h2, ia_eq h3]
  exact h
theorem TKp.up {f f' : Nat → va_E} {ka sta vaa ln j p : Nat} {tt : Nat → Int32} (h : TKp f ka sta vaa tt ln j) (hl : LAY f f' ka sta vaa j (Kp tt ln p) (nI p) (Vp tt ln p)) (hp : Sj tt ln j = p) : TKp f' ka sta vaa tt ln (j + 1) := by
  intro x hx
  rw [hl.1, hl.2.1, hl.2.2]
  by_cases e : x = j
  · subst e
    rw [hp]
    exact ⟨if_pos rfl, if_pos rfl, if_pos rfl⟩
  · have g : ∀ (t : Nat → Int32) (v : Int32), upd t j v x = t x := fun t v => if_neg e
    rw [g, g, g]
    exact h x (by omega)

