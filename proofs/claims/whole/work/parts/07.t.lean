/-! the typed pool: all cells of a house, each with its shape -/
noncomputable abbrev shp : Type := Nat × Nat × Nat
noncomputable def shk (x : (Nat → Int32) ⊕ (Nat → Int64) ⊕ (Nat → UInt32) ⊕ (Nat → UInt64) ⊕ (Nat → Option Nat)) : Nat := match x with
  | .inl _ => 1
  | .inr (.inr (.inr (.inr _))) => 2
  | _ => 3
/-- a cell's shape: an object's class; an array's kind, class and length -/
noncomputable def sh (e : va_E) : shp := match e with
  | .inl a => (shk a.2.2, a.1, a.2.1)
  | .inr o => (0, o.1, 0)
/-- a value of a type: 0 a number, 1 a reference that is never null, else one that may be null -/
noncomputable def okv (L : List Nat) (f : Nat → va_E) (t : Nat × shp) (v : Value) : Prop := match t.1 with
  | 0 => ∃ z : Int32, v = .int z
  | 1 => ∃ b : Nat, v = .ref b ∧ b ∈ L ∧ sh (f b) = t.2
  | _ => v = .null ∨ ∃ b : Nat, v = .ref b ∧ b ∈ L ∧ sh (f b) = t.2
noncomputable def tI : Nat × shp := (0, 0, 0, 0)
/-- the types of a class's fields; g: the classes of the rows: kinds, tape, vats, cloths, recipes, starts, values, the planner's three, its vats -/
noncomputable def fty (g : Nat → Nat) (ci : Nat) : List (Nat × shp) := match ci with
  | 0 => [tI, tI, tI, tI, tI, tI, tI, tI]
  | 1 => [(1, 0, 8, 0), (1, 2, g 10, 6), (1, 0, 0, 0), tI, tI, tI, (1, 1, g 7, 3), (1, 1, g 8, 3), (1, 1, g 9, 3)]
  | 2 => [(1, 0, 6, 0), tI, tI, tI, tI, tI]
  | 3 => [(2, 0, 5, 0)]
  | 4 => [(1, 0, 8, 0), tI, tI, tI, tI, tI, tI, tI]
  | 5 => [tI, tI, tI, tI, tI, (2, 0, 5, 0), (2, 0, 5, 0), (2, 0, 5, 0)]
  | 6 => [(1, 1, g 1, 1500), tI, tI, tI, (1, 1, g 0, 1501), (1, 1, g 5, 1501), (1, 1, g 6, 1501)]
  | 7 => [tI, tI, tI, tI, tI, tI, tI, tI]
  | 8 => [(1, 2, g 2, 6), tI, tI]
  | 9 => [(1, 0, 8, 0), (1, 2, g 3, 30), tI, tI, (1, 1, g 1, 1500), tI, (1, 0, 2, 0), (1, 2, g 4, 8), tI, (1, 0, 4, 0), (1, 0, 1, 0)]
  | _ => []
noncomputable def okr (L : List Nat) (f : Nat → va_E) (nul : Bool) (ci : Nat) (r : Option Nat) : Prop := (nul = true ∧ r = none) ∨ ∃ b : Nat, r = some b ∧ b ∈ L ∧ sh (f b) = (0, ci, 0)
noncomputable def oke (g : Nat → Nat) (L : List Nat) (f : Nat → va_E) (e : va_E) : Prop := match e with
  | .inr o => o.2.length = (fty g o.1).length ∧ ∀ (k : Nat) (t : Nat × shp) (v : Value), (fty g o.1)[k]? = some t → o.2[k]? = some v → okv L f t v
  | .inl (cA, n, .inr (.inr (.inr (.inr h)))) => (cA = g 2 ∨ cA = g 10 → ∀ i : Nat, i < n → okr L f false 7 (h i)) ∧ (cA = g 3 → ∀ i : Nat, i < n → okr L f true 0 (h i)) ∧ (cA = g 4 → ∀ i : Nat, i < n → okr L f true 3 (h i))
  | .inl _ => True
noncomputable def gd (g : Nat → Nat) : Prop := g 2 ≠ g 3 ∧ g 2 ≠ g 4 ∧ g 3 ≠ g 4 ∧ g 10 ≠ g 3 ∧ g 10 ≠ g 4
noncomputable def WT (g : Nat → Nat) (L : List Nat) (f : Nat → va_E) : Prop := gd g ∧ ∀ a ∈ L, oke g L f (f a)
noncomputable def TP (g : Nat → Nat) (L : List Nat) (f : Nat → va_E) (rs : List (Nat × shp)) : Prop := WT g L f ∧ ∀ q ∈ rs, q.1 ∈ L ∧ sh (f q.1) = q.2
noncomputable def Ext (L : List Nat) (f : Nat → va_E) (L' : List Nat) (f' : Nat → va_E) : Prop := ∀ b ∈ L, b ∈ L' ∧ sh (f' b) = sh (f b)
theorem Ext.rf {L : List Nat} {f : Nat → va_E} : Ext L f L f := fun _ h => ⟨h, rfl⟩
theorem Ext.tr {L L' L'' : List Nat} {f f' f'' : Nat → va_E} (h : Ext L f L' f') (h' : Ext L' f' L'' f'') : Ext L f L'' f'' := fun b hb => ⟨(h' b (h b hb).1).1, ((h' b (h b hb).1).2).trans (h b hb).2⟩
theorem okv.go {L L' : List Nat} {f f' : Nat → va_E} {t : Nat × shp} {v : Value} (h : Ext L f L' f') (hv : okv L f t v) : okv L' f' t v := by
  obtain ⟨t1, t2⟩ := t
  match t1, hv with
  | 0, hv => exact hv
  | 1, ⟨b, e, h1, h2⟩ => exact ⟨b, e, (h b h1).1, ((h b h1).2).trans h2⟩
  | n + 2, Or.inl e => exact Or.inl e
  | n + 2, Or.inr ⟨b, e, h1, h2⟩ => exact Or.inr ⟨b, e, (h b h1).1, ((h b h1).2).trans h2⟩
theorem okr.go {L L' : List Nat} {f f' : Nat → va_E} {nul : Bool} {ci : Nat} {r : Option Nat} (h : Ext L f L' f') (hv : okr L f nul ci r) : okr L' f' nul ci r := by
  rcases hv with hv | ⟨b, e, h1, h2⟩
  · exact Or.inl hv
  · exact Or.inr ⟨b, e, (h b h1).1, ((h b h1).2).trans h2⟩
theorem oke.go {g : Nat → Nat} {L L' : List Nat} {f f' : Nat → va_E} {e : va_E} (h : Ext L f L' f') (hv : oke g L f e) : oke g L' f' e := by
  match e, hv with
  | .inr o, hv => exact ⟨hv.1, fun k t v h1 h2 => (hv.2 k t v h1 h2).go h⟩
  | .inl (cA, n, .inr (.inr (.inr (.inr x)))), hv => exact ⟨fun e i hi => (hv.1 e i hi).go h, fun e i hi => (hv.2.1 e i hi).go h, fun e i hi => (hv.2.2 e i hi).go h⟩
  | .inl (cA, n, .inl x), _ => trivial
  | .inl (cA, n, .inr (.inl x)), _ => trivial
  | .inl (cA, n, .inr (.inr (.inl x))), _ => trivial
  | .inl (cA, n, .inr (.inr (.inr (.inl x)))), _ => trivial
theorem Ext.up {L : List Nat} {f : Nat → va_E} {a : Nat} {e : va_E} (hs : sh e = sh (f a)) : Ext L f L (va_up f a e) := fun b hb => by
  refine ⟨hb, ?_⟩
  by_cases h : b = a
  · subst h; rw [va_up_self]; exact hs
  · rw [va_up_ne _ _ h]
theorem WT.up {g : Nat → Nat} {L : List Nat} {f : Nat → va_E} {a : Nat} {e : va_E} (h : WT g L f) (hs : sh e = sh (f a)) (he : oke g L f e) : WT g L (va_up f a e) := by
  refine ⟨h.1, fun b hb => ?_⟩
  by_cases hba : b = a
  · subst hba; rw [va_up_self]; exact he.go (Ext.up hs)
  · rw [va_up_ne _ _ hba]; exact (h.2 b hb).go (Ext.up hs)
theorem Ext.push {L : List Nat} {f : Nat → va_E} {a : Nat} {e : va_E} (ha : a ∉ L) : Ext L f (L ++ [a]) (va_up f a e) := fun b hb => by
  have hne : b ≠ a := fun h => ha (h ▸ hb)
  refine ⟨List.mem_append_left _ hb, ?_⟩
  rw [va_up_ne _ _ hne]
theorem WT.push {g : Nat → Nat} {L : List Nat} {f : Nat → va_E} {a : Nat} {e : va_E} (h : WT g L f) (ha : a ∉ L) (he : oke g (L ++ [a]) (va_up f a e) e) : WT g (L ++ [a]) (va_up f a e) := by
  refine ⟨h.1, fun b hb => ?_⟩
  by_cases hba : b = a
  · subst hba; rw [va_up_self]; exact he
  · rw [va_up_ne _ _ hba]
    rcases List.mem_append.mp hb with h1 | h1
    · exact (h.2 b h1).go (Ext.push ha)
    · exact absurd (List.mem_singleton.mp h1) hba
theorem TP.go {g : Nat → Nat} {L L' : List Nat} {f f' : Nat → va_E} {rs : List (Nat × shp)} (h : TP g L f rs) (hE : Ext L f L' f') (hW : WT g L' f') : TP g L' f' rs := ⟨hW, fun q hq => ⟨(hE _ (h.2 q hq).1).1, ((hE _ (h.2 q hq).1).2).trans (h.2 q hq).2⟩⟩
theorem TP.add {g : Nat → Nat} {L : List Nat} {f : Nat → va_E} {rs : List (Nat × shp)} {b : Nat} {t : shp} (h : TP g L f rs) (hb : b ∈ L ∧ sh (f b) = t) : TP g L f ((b, t) :: rs) := ⟨h.1, fun q hq => by
  rcases List.mem_cons.mp hq with e | e
  · subst e; exact hb
  · exact h.2 q e⟩
theorem TP.sub {g : Nat → Nat} {L : List Nat} {f : Nat → va_E} {rs rs' : List (Nat × shp)} (h : TP g L f rs) (is : List Nat) (hs : is.map (fun i => rs[i]?) = rs'.map some) : TP g L f rs' := ⟨h.1, fun q hq => by
  have h1 : some q ∈ rs'.map some := List.mem_map.mpr ⟨q, hq, rfl⟩
  rw [← hs] at h1
  obtain ⟨i, -, hi⟩ := List.mem_map.mp h1
  exact h.2 q (List.mem_of_getElem? hi)⟩
theorem TP.at {g : Nat → Nat} {L : List Nat} {f : Nat → va_E} {rs : List (Nat × shp)} (h : TP g L f rs) (q0 : Nat) {a : Nat} {t : shp} (hq : rs[q0]? = some (a, t)) : a ∈ L ∧ sh (f a) = t := h.2 (a, t) (List.mem_of_getElem? hq)
theorem sh_obj {e : va_E} {ci : Nat} (h : sh e = (0, ci, 0)) : ∃ fs : List Value, e = .inr (ci, fs) := by
  match e, h with
  | .inr (c, fs), h => exact ⟨fs, by cases h; rfl⟩
  | .inl (cA, n, .inl x), h => cases h
  | .inl (cA, n, .inr (.inl x)), h => cases h
  | .inl (cA, n, .inr (.inr (.inl x))), h => cases h
  | .inl (cA, n, .inr (.inr (.inr (.inl x)))), h => cases h
  | .inl (cA, n, .inr (.inr (.inr (.inr x)))), h => cases h
theorem sh_int {e : va_E} {cA n : Nat} (h : sh e = (1, cA, n)) : ∃ x : Nat → Int32, e = .inl (cA, n, .inl x) := by
  match e, h with
  | .inr (c, fs), h => cases h
  | .inl (cA, n, .inl x), h => exact ⟨x, by cases h; rfl⟩
  | .inl (cA, n, .inr (.inl x)), h => cases h
  | .inl (cA, n, .inr (.inr (.inl x))), h => cases h
  | .inl (cA, n, .inr (.inr (.inr (.inl x)))), h => cases h
  | .inl (cA, n, .inr (.inr (.inr (.inr x)))), h => cases h
theorem sh_ref {e : va_E} {cA n : Nat} (h : sh e = (2, cA, n)) : ∃ x : Nat → Option Nat, e = .inl (cA, n, .inr (.inr (.inr (.inr x)))) := by
  match e, h with
  | .inr (c, fs), h => cases h
  | .inl (cA, n, .inl x), h => cases h
  | .inl (cA, n, .inr (.inl x)), h => cases h
  | .inl (cA, n, .inr (.inr (.inl x))), h => cases h
  | .inl (cA, n, .inr (.inr (.inr (.inl x)))), h => cases h
  | .inl (cA, n, .inr (.inr (.inr (.inr x)))), h => exact ⟨x, by cases h; rfl⟩
/-- field k of the object at a -/
noncomputable def rd (f : Nat → va_E) (a k : Nat) : Value := match f a with
  | .inr o => o.2.getD k .null
  | _ => .null
theorem pl_get {L : List Nat} {f : Nat → va_E} {a : Nat} (h : a ∈ L) : ∃ k : Nat, (va_pl L f)[k]? = some (a, f a) := va_pl_get (X := []) h
theorem pl_set {A : Nat → Prop} {L : List Nat} {f : Nat → va_E} {a k : Nat} {e : va_E} (hD : va_D A (va_pl L f)) (h : a ∈ L) (hk : (va_pl L f)[k]? = some (a, f a)) : (va_pl L f).set k (a, e) = va_pl L (va_up f a e) := va_pl_set (X := []) hD h hk
theorem rd_up {f : Nat → va_E} {a ci k : Nat} {fs : List Value} {v : Value} (h : f a = .inr (ci, fs)) (hk : k < fs.length) (b j : Nat) : rd (va_up f a (.inr (ci, fs.set k v))) b j = if b = a ∧ j = k then v else rd f b j := by
  by_cases hb : b = a
  · subst hb
    simp only [rd, va_up_self, h, true_and]
    by_cases hj : j = k
    · subst hj; simp [hk]
    · rw [if_neg hj]; simp [List.getD, List.getElem?_set_ne (Ne.symm hj)]
  · simp only [rd, va_up_ne _ _ hb, hb, false_and, if_false]
/-- only fields of the pairs (class, field) of cs may have changed, and rows of the pairs (100 or 200, length) -/
noncomputable def Fr (cs : List (Nat × Nat)) (L : List Nat) (f f' : Nat → va_E) : Prop := (∀ a ∈ L, ∀ ci : Nat, sh (f a) = (0, ci, 0) → ∀ k : Nat, (ci, k) ∉ cs → rd f' a k = rd f a k) ∧ ∀ a ∈ L, ∀ k cA n : Nat, sh (f a) = (k + 1, cA, n) → (100 * (k + 1), n) ∉ cs → f' a = f a
theorem Fr.rf {cs : List (Nat × Nat)} {L : List Nat} {f : Nat → va_E} : Fr cs L f f := ⟨fun _ _ _ _ _ _ => rfl, fun _ _ _ _ _ _ _ => rfl⟩
theorem Fr.put {cs : List (Nat × Nat)} {L L1 : List Nat} {f f1 f2 : Nat → va_E} {a ci k : Nat} {v : Value} (hF : Fr cs L f f1) (hE : Ext L f L1 f1) (hs : sh (f1 a) = (0, ci, 0)) (hci : (ci, k) ∈ cs) (hrd : ∀ b j : Nat, rd f2 b j = if b = a ∧ j = k then v else rd f1 b j) (hup : ∀ b : Nat, b ≠ a → f2 b = f1 b) : Fr cs L f f2 := by
  refine ⟨fun b hb cb hcb j hn => ?_, fun b hb k2 cA n hsb hn => ?_⟩
  · have hba : ¬ (b = a ∧ j = k) := by
      rintro ⟨e, ej⟩
      subst e
      subst ej
      have h1 := (hE b hb).2
      rw [hs, hcb] at h1
      cases h1
      exact hn hci
    rw [hrd, if_neg hba]
    exact hF.1 b hb cb hcb j hn
  · have hba : b ≠ a := by
      rintro rfl
      have h1 := (hE b hb).2
      rw [hs, hsb] at h1
      cases h1
    rw [hup b hba]
    exact hF.2 b hb k2 cA n hsb hn
theorem Fr.arr {cs : List (Nat × Nat)} {L L1 : List Nat} {f f1 f2 : Nat → va_E} {a k cA n : Nat} (hF : Fr cs L f f1) (hE : Ext L f L1 f1) (hs : sh (f1 a) = (k + 1, cA, n)) (hc : (100 * (k + 1), n) ∈ cs) (hrd : ∀ b j : Nat, rd f2 b j = rd f1 b j) (hup : ∀ b : Nat, b ≠ a → f2 b = f1 b) : Fr cs L f f2 := by
  refine ⟨fun b hb cb hcb j hn => ?_, fun b hb k2 cA2 n2 hsb hn => ?_⟩
  · rw [hrd]
    exact hF.1 b hb cb hcb j hn
  · have hba : b ≠ a := by
      rintro rfl
      have h1 := (hE b hb).2
      rw [hs, hsb] at h1
      injection h1 with e1 e2
      injection e2 with e2 e3
      obtain rfl : k = k2 := by omega
      subst e3
      exact hn hc
    rw [hup b hba]
    exact hF.2 b hb k2 cA2 n2 hsb hn
theorem Fr.call {cs cs' : List (Nat × Nat)} {L L1 : List Nat} {f f1 f2 : Nat → va_E} (hF : Fr cs L f f1) (hE : Ext L f L1 f1) (hF' : Fr cs' L1 f1 f2) (hsub : ∀ c ∈ cs', c ∈ cs) : Fr cs L f f2 := by
  refine ⟨fun b hb cb hcb j hn => ?_, fun b hb k cA n hsb hn => ?_⟩
  · rw [hF'.1 b (hE b hb).1 cb (((hE b hb).2).trans hcb) j (fun h => hn (hsub _ h))]
    exact hF.1 b hb cb hcb j hn
  · rw [hF'.2 b (hE b hb).1 k cA n (((hE b hb).2).trans hsb) (fun h => hn (hsub _ h))]
    exact hF.2 b hb k cA n hsb hn
theorem Fr.new {cs : List (Nat × Nat)} {L L1 : List Nat} {f f1 f2 : Nat → va_E} {q : Nat} (hF : Fr cs L f f1) (hE : Ext L f L1 f1) (hq : q ∉ L1) (hrd : ∀ b j : Nat, b ≠ q → rd f2 b j = rd f1 b j) (hup : ∀ b : Nat, b ≠ q → f2 b = f1 b) : Fr cs L f f2 := by
  refine ⟨fun b hb cb hcb j hn => ?_, fun b hb k cA n hsb hn => ?_⟩
  · rw [hrd b j (fun h => hq (h ▸ (hE b hb).1))]
    exact hF.1 b hb cb hcb j hn
  · rw [hup b (fun h => hq (h ▸ (hE b hb).1))]
    exact hF.2 b hb k cA n hsb hn
/-- the numbers of a row -/
noncomputable def ia (f : Nat → va_E) (a : Nat) : Nat → Int32 := match f a with
  | .inl (_, _, .inl x) => x
  | _ => fun _ => 0
/-- the references of a row -/
noncomputable def ra (f : Nat → va_E) (a : Nat) : Nat → Option Nat := match f a with
  | .inl (_, _, .inr (.inr (.inr (.inr x)))) => x
  | _ => fun _ => none
theorem ia_eq {f f' : Nat → va_E} {a : Nat} (h : f' a = f a) : ia f' a = ia f a := by unfold ia; rw [h]
theorem ra_eq {f f' : Nat → va_E} {a : Nat} (h : f' a = f a) : ra f' a = ra f a := by unfold ra; rw [h]
