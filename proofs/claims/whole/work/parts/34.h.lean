/-! steps of the class against nodes of the reference -/
noncomputable def lkr (ad : Nat → Nat) (x : Int32) : Value := if x = -1 then .null else .ref (ad x.toNatClampNeg)
/-- the class's number of a look -/
noncomputable def lkC (x : Int32) : Int32 := if x = 14 then 15 else if x = 15 then 16 else if x = 16 then 19 else x
noncomputable def SN (f : Nat → va_E) (ad : Nat → Nat) (s : AS) (b k : Nat) : Prop :=
  rd f b 0 = .int (s.2 26 k + 1) ∧ (s.2 26 k = 0 ∨ s.2 26 k = 4 → rd f b 1 = .int (s.2 27 k) ∧ rd f b 2 = .int (s.2 28 k)) ∧ (s.2 26 k = 3 ∨ s.2 26 k = 6 ∨ s.2 26 k = 7 ∨ s.2 26 k = 8 → rd f b 2 = .int (s.2 27 k)) ∧ (s.2 26 k = 5 → rd f b 1 = .int (s.2 27 k))
  ∧ (s.2 26 k = 9 → rd f b 3 = .int (lkC (s.2 29 k)) ∧ rd f b 4 = .int (if s.2 30 k = 60 then 1 else 0) ∧ rd f b 2 = .int (s.2 28 k) ∧ (s.2 29 k = 17 ∨ s.2 29 k = 18 → rd f b 1 = .int (s.2 27 k)))
  ∧ rd f b 5 = lkr ad (s.2 31 k) ∧ rd f b 6 = lkr ad (s.2 32 k) ∧ rd f b 7 = lkr ad (s.2 33 k)
noncomputable def TRS (V : Nat → Prop) (ad : Nat → Nat) (L : List Nat) (f : Nat → va_E) (s : AS) : Prop := ∀ k : Nat, V k → (ad k ∈ L ∧ sh (f (ad k)) = (0, 5, 0)) ∧ SN f ad s (ad k) k
/-- the levels of the nodes -/
noncomputable def LVS (V : Nat → Prop) (dp : Nat → Nat) (s : AS) : Prop := ∀ k : Nat, V k → k < 2700 ∧ dp k ≤ 8 ∧ (7 ≤ (s.2 26 k).toInt → dp k ≤ 7) ∧ lk V dp (dp k + 1) (s.2 31 k) ∧ lk V dp (dp k + 1) (s.2 32 k) ∧ lk V dp (dp k) (s.2 33 k)
section RHS
variable {g : Nat → Nat} {L L' : List Nat} {f f' f2 : Nat → va_E} {x0 wk vs cl ru b c k i : Nat} {va ad dp : Nat → Nat} {s s' : AS} {cs : List (Nat × Nat)} {V : Nat → Prop} {x : Int32}
theorem SN.go (h : SN f ad s b k) (hr : ∀ j : Nat, rd f' b j = rd f b j) (hf : ∀ j : Nat, 19 ≤ j → s'.2 j = s.2 j) : SN f' ad s' b k := by
  unfold SN at h ⊢
  rw [hr, hr, hr, hr, hr, hr, hr, hr, hf 26 (by omega), hf 27 (by omega), hf 28 (by omega), hf 29 (by omega), hf 30 (by omega), hf 31 (by omega), hf 32 (by omega), hf 33 (by omega)]
  exact h
theorem TRS.go (h : TRS V ad L f s) (hE : Ext L f L' f') (hF : Fr cs L f f') (hc : ∀ c ∈ cs, c.1 ≠ 5) (hf : ∀ j : Nat, 19 ≤ j → s'.2 j = s.2 j) : TRS V ad L' f' s' := fun k hk =>
  ⟨mem_ext (h k hk).1 hE, (h k hk).2.go (fun j => hF.1 _ (h k hk).1.1 5 (h k hk).1.2 j (fun g => hc _ g rfl)) hf⟩
theorem LVS.go (h : LVS V dp s) (hf : ∀ j : Nat, 19 ≤ j → s'.2 j = s.2 j) : LVS V dp s' := fun k hk => by
  rw [hf 26 (by omega), hf 31 (by omega), hf 32 (by omega), hf 33 (by omega)]
  exact h k hk
theorem RN.put (h : RN f ru s) (hki : (k, i) ∈ [(1, 39), (2, 44), (3, 45), (4, 40), (5, 41), (6, 42), (7, 43)]) (hrd : ∀ b j : Nat, rd f2 b j = if b = ru ∧ j = k then .int x else rd f b j) : RN f2 ru (va_up s.1 i x, s.2) := by
  obtain ⟨h1, h2, h3, h4, h5, h6, h7⟩ := h
  simp only [List.mem_cons, Prod.mk.injEq, List.not_mem_nil, or_false] at hki
  rcases hki with ⟨rfl, rfl⟩ | ⟨rfl, rfl⟩ | ⟨rfl, rfl⟩ | ⟨rfl, rfl⟩ | ⟨rfl, rfl⟩ | ⟨rfl, rfl⟩ | ⟨rfl, rfl⟩ <;> refine ⟨?_, ?_, ?_, ?_, ?_, ?_, ?_⟩ <;> rw [hrd] <;> simp [va_up, h1, h2, h3, h4, h5, h6, h7]
end RHS
section PLS
variable {s : AS} {k c : Nat}
end PLS
section RES_
variable {N a : Nat} {s1 : AS}
end RES_
