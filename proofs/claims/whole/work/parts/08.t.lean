/-! instructions over the typed pool -/
noncomputable def tyG (g : Nat → Nat) : List (ClassId × FieldType) := [(g 0, .int), (g 1, .byte), (g 2, .object "VatHouse$Vat"), (g 3, .object "VatHouse$Cloth"), (g 4, .object "VatHouse$Recipe"), (g 5, .int), (g 6, .int), (g 7, .int), (g 8, .int), (g 9, .int), (g 10, .object "VatHouse$Vat")]
theorem oke_set {g : Nat → Nat} {L : List Nat} {f : Nat → va_E} {ci k : Nat} {fs : List Value} {v : Value} {t : Nat × shp} (h : oke g L f (.inr (ci, fs))) (ht : (fty g ci)[k]? = some t) (hv : okv L f t v) : oke g L f (.inr (ci, fs.set k v)) := by
  refine ⟨by show (fs.set k v).length = _; rw [List.length_set]; exact h.1, fun j t2 v2 h1 h2 => ?_⟩
  have h2 : (fs.set k v)[j]? = some v2 := h2
  have h1 : (fty g ci)[j]? = some t2 := h1
  by_cases hj : j = k
  · subst hj
    have hl : j < fs.length := by
      have := (List.getElem?_eq_some_iff.mp h2).1
      rwa [List.length_set] at this
    rw [List.getElem?_set_self hl] at h2
    cases h2
    cases ht.symm.trans h1
    exact hv
  · rw [List.getElem?_set_ne (Ne.symm hj)] at h2
    exact h.2 j t2 v2 h1 h2
section TT
variable {p : Program} {l : Launch} {e : Env} {R : Room} {s : State} {m : MethodId} {args : Array Value} {below : List Frame} {meth : Method} {c : Code} {H H0 : Heap} {locs : List Loc} {cells slots : Nat} {Q : State → Prop}
variable {dC : Nat → ClassId} {dI : Nat → Nat → Nat} {A : Nat → Prop} {tys : List (ClassId × FieldType)} {cc : ByteArray} {pc a : Nat} {ls : Array Slot} {rest : List Value}
variable {g : Nat → Nat} {L : List Nat} {f : Nat → va_E} {rs : List (Nat × shp)}
theorem T_get (hx : p.tables.exec = Jvm.exec) (hb : c.code = cc) {own ref C : String} {T : u_T} {N ci index : Nat} {Ts : List Cond} (hts : ∀ w ∈ Ts, w.before args s = true) (hin : ∀ w ∈ u_ws C T N, w ∈ Ts) (hown : s.vm.findClass own = some m.cls) (hK : va_K (dC, dI) vwCl tys s) (hP : va_P (dC, dI) vwCl (va_pl L f) H) (hT : TP g L f rs) (q0 : Nat) (hq : rs[q0]? = some (a, (0, ci, 0))) (hc : vwCl[ci]? = some (C, T, N)) (k : Nat) (hk : k < N) (hlink : (Cond.fieldLink own index ref (T k).2.1 (T k).2.2.1).before args s = true) (hsame : ∀ x, s.fieldFound? (T k).1 (T k).2.1 (T k).2.2.1 = some x → s.fieldFound? ref (T k).2.1 (T k).2.2.1 = some x) {t : Nat × shp} (ht : (fty g ci)[k]? = some t) (hdg : decode cc pc = .ok (.getfield index, 3))
    (kk : ∀ v : Value, okv L f t v → rd f a k = v → W p l e R s m args below meth c H locs cells slots Q (F0 m (pc + 3) ls (v :: rest))) : W p l e R s m args below meth c H locs cells slots Q (F0 m pc ls (.ref a :: rest)) := by
  obtain ⟨ha, hs⟩ := hT.at q0 hq
  obtain ⟨fs, hf⟩ := sh_obj hs
  obtain ⟨j, hj⟩ := pl_get (f := f) ha
  rw [hf] at hj
  have ho := hT.1.2 a ha
  rw [hf] at ho
  have hl : k < fs.length := by
    have h1 : fs.length = (fty g ci).length := ho.1
    rw [h1]; exact (List.getElem?_eq_some_iff.mp ht).1
  have hv : fs[k]? = some fs[k] := List.getElem?_eq_getElem hl
  exact va_get hx hb hts hin hown hK hP j hj hc k hk hlink hsame hv hdg (kk _ (ho.2 k t _ ht hv) (by simp [rd, hf, hl]))
theorem T_put (hx : p.tables.exec = Jvm.exec) (hb : c.code = cc) {own ref C : String} {T : u_T} {N ci index : Nat} {Ts : List Cond} (hts : ∀ w ∈ Ts, w.before args s = true) (hin : ∀ w ∈ u_ws C T N, w ∈ Ts) (ty0 : Nat → FieldType) (hty : ∀ k, k < N → parseFieldDescriptor (T k).2.2.1 = some (ty0 k)) (hnm : ∀ a, a < N → ∀ b, b < N → a ≠ b → (T a).2.1 ≠ (T b).2.1) (hown : s.vm.findClass own = some m.cls) (hK : va_K (dC, dI) vwCl tys s) (hP : va_P (dC, dI) vwCl (va_pl L f) H) (hD : va_D A (va_pl L f)) (hS : va_S A H0 H locs) (hT : TP g L f rs) (q0 : Nat) (hq : rs[q0]? = some (a, (0, ci, 0))) (hc : vwCl[ci]? = some (C, T, N)) (k : Nat) (hk : k < N) (hlink : (Cond.fieldLink own index ref (T k).2.1 (T k).2.2.1).before args s = true) (hsame : ∀ x, s.fieldFound? (T k).1 (T k).2.1 (T k).2.2.1 = some x → s.fieldFound? ref (T k).2.1 (T k).2.2.1 = some x) (hfin : (T k).2.2.2 = false) {ty : FieldType} {v : Value} (hd : parseFieldDescriptor (T k).2.2.1 = some ty) (hn : narrow ty v = v) (hfit : fits ty v = true) {t : Nat × shp} (ht : (fty g ci)[k]? = some t) (hv : okv L f t v) (hdg : decode cc pc = .ok (.putfield index, 3))
    (kk : ∀ (f' : Nat → va_E) (H1 : Heap) (locs1 : List Loc), va_P (dC, dI) vwCl (va_pl L f') H1 → va_D A (va_pl L f') → va_S A H0 H1 locs1 → TP g L f' rs → Ext L f L f' → (∀ b j : Nat, rd f' b j = if b = a ∧ j = k then v else rd f b j) → (∀ b : Nat, b ≠ a → f' b = f b) → W p l e R s m args below meth c H1 locs1 cells slots Q (F0 m (pc + 3) ls rest)) : W p l e R s m args below meth c H locs cells slots Q (F0 m pc ls (v :: .ref a :: rest)) := by
  obtain ⟨ha, hs⟩ := hT.at q0 hq
  obtain ⟨fs, hf⟩ := sh_obj hs
  obtain ⟨j, hj⟩ := pl_get (f := f) ha
  have hj2 := hj
  rw [hf] at hj2
  have ho := hT.1.2 a ha
  rw [hf] at ho
  have hl : k < fs.length := by
    have h1 : fs.length = (fty g ci).length := ho.1
    rw [h1]; exact (List.getElem?_eq_some_iff.mp ht).1
  have hE : Ext L f L (va_up f a (.inr (ci, fs.set k v))) := Ext.up (by rw [hf]; rfl)
  have hW : WT g L (va_up f a (.inr (ci, fs.set k v))) := hT.1.up (by rw [hf]; rfl) (oke_set ho ht hv)
  refine va_put hx hb hts hin ty0 hty hnm hown hK hP hD hS j hj2 hc k hk hlink hsame hfin hd hn hfit hl hdg fun H1 locs1 h1 h2 h3 => ?_
  rw [pl_set hD ha hj] at h1 h2
  exact kk _ H1 locs1 h1 h2 h3 (hT.go hE hW) hE (rd_up hf hl) (fun b hb9 => va_up_ne _ _ hb9)
theorem T_iald (hx : p.tables.exec = Jvm.exec) (hb : c.code = cc) (hK : va_K (dC, dI) vwCl tys s) (hP : va_P (dC, dI) vwCl (va_pl L f) H) (hT : TP g L f rs) (q0 t0 : Nat) {cA n : Nat} (hq : rs[q0]? = some (a, (1, cA, n))) (ht : tys[t0]? = some (cA, .int)) {i : Int32} (hin : vp_in i n) (hdg : decode cc pc = .ok (.iaload, 1))
    (kk : ∀ x : Int32, x = ia f a i.toNatClampNeg → W p l e R s m args below meth c H locs cells slots Q (F0 m (pc + 1) ls (.int x :: rest))) : W p l e R s m args below meth c H locs cells slots Q (F0 m pc ls (.int i :: .ref a :: rest)) := by
  obtain ⟨ha, hs⟩ := hT.at q0 hq
  obtain ⟨x, hf⟩ := sh_int hs
  obtain ⟨j, hj⟩ := pl_get (f := f) ha
  rw [hf] at hj
  exact va_iald hx hb hK hP j t0 hj ht hin hdg (kk _ (by simp only [ia, hf]))
theorem rd_arr {f : Nat → va_E} {a : Nat} {x y : ClassId × vp_A} (h : f a = .inl x) (b j : Nat) : rd (va_up f a (.inl y)) b j = rd f b j := by
  by_cases hb : b = a
  · subst hb; simp only [rd, va_up_self, h]
  · simp only [rd, va_up_ne _ _ hb]
theorem T_iast (hx : p.tables.exec = Jvm.exec) (hb : c.code = cc) (hK : va_K (dC, dI) vwCl tys s) (hP : va_P (dC, dI) vwCl (va_pl L f) H) (hD : va_D A (va_pl L f)) (hS : va_S A H0 H locs) (hT : TP g L f rs) (q0 t0 : Nat) {cA n : Nat} (hq : rs[q0]? = some (a, (1, cA, n))) (ht : tys[t0]? = some (cA, .int)) {i x : Int32} (hin : vp_in i n) (hdg : decode cc pc = .ok (.iastore, 1))
    (kk : ∀ (f' : Nat → va_E) (H1 : Heap) (locs1 : List Loc), va_P (dC, dI) vwCl (va_pl L f') H1 → va_D A (va_pl L f') → va_S A H0 H1 locs1 → TP g L f' rs → Ext L f L f' → (∀ b j : Nat, rd f' b j = rd f b j) → (∀ b : Nat, b ≠ a → f' b = f b) → ia f' a = upd (ia f a) i.toNatClampNeg x → W p l e R s m args below meth c H1 locs1 cells slots Q (F0 m (pc + 1) ls rest)) : W p l e R s m args below meth c H locs cells slots Q (F0 m pc ls (.int x :: .int i :: .ref a :: rest)) := by
  obtain ⟨ha, hs⟩ := hT.at q0 hq
  obtain ⟨z, hf⟩ := sh_int hs
  obtain ⟨j, hj⟩ := pl_get (f := f) ha
  have hj2 := hj
  rw [hf] at hj2
  have hE : ∀ y : Nat → Int32, Ext L f L (va_up f a (.inl (cA, n, .inl y))) := fun y => Ext.up (by rw [hf]; rfl)
  have hW : ∀ y : Nat → Int32, WT g L (va_up f a (.inl (cA, n, .inl y))) := fun y => hT.1.up (by rw [hf]; rfl) trivial
  refine va_iast hx hb hK hP hD hS j t0 hj2 ht hin hdg fun H1 locs1 h1 h2 h3 => ?_
  rw [pl_set hD ha hj] at h1 h2
  exact kk _ H1 locs1 h1 h2 h3 (hT.go (hE _) (hW _)) (hE _) (rd_arr hf) (fun b hb9 => va_up_ne _ _ hb9) (by simp only [ia, va_up_self, hf])
/-- a vat out of its row: never null -/
theorem T_vald (hx : p.tables.exec = Jvm.exec) (hb : c.code = cc) (hK : va_K (dC, dI) vwCl tys s) (hP : va_P (dC, dI) vwCl (va_pl L f) H) (hT : TP g L f rs) (q0 t0 : Nat) {cA n : Nat} {C : String} (hcA : cA = g 2 ∨ cA = g 10) (hq : rs[q0]? = some (a, (2, cA, n))) (ht : tys[t0]? = some (cA, .object C)) {i : Int32} (hin : vp_in i n) (hdg : decode cc pc = .ok (.aaload, 1))
    (kk : ∀ b : Nat, b ∈ L ∧ sh (f b) = (0, 7, 0) → ra f a i.toNatClampNeg = some b → W p l e R s m args below meth c H locs cells slots Q (F0 m (pc + 1) ls (.ref b :: rest))) : W p l e R s m args below meth c H locs cells slots Q (F0 m pc ls (.int i :: .ref a :: rest)) := by
  obtain ⟨ha, hs⟩ := hT.at q0 hq
  obtain ⟨x, hf⟩ := sh_ref hs
  obtain ⟨j, hj⟩ := pl_get (f := f) ha
  rw [hf] at hj
  have ho := hT.1.2 a ha
  rw [hf] at ho
  refine va_aldq hx hb hK hP j t0 hj ht hin hdg ?_
  rcases ho.1 hcA i.toNatClampNeg (Nat.not_le.mp fun q => hin (Or.inr q)) with ⟨h, -⟩ | ⟨b, hb2, h1, h2⟩
  · cases h
  · rw [hb2]; exact kk b ⟨h1, h2⟩ (by simp only [ra, hf]; exact hb2)
/-- a cloth or a recipe out of its row: may be null -/
theorem T_cald (hx : p.tables.exec = Jvm.exec) (hb : c.code = cc) (hK : va_K (dC, dI) vwCl tys s) (hP : va_P (dC, dI) vwCl (va_pl L f) H) (hT : TP g L f rs) (q0 t0 : Nat) {n : Nat} {C : String} (hq : rs[q0]? = some (a, (2, g 3, n))) (ht : tys[t0]? = some (g 3, .object C)) {i : Int32} (hin : vp_in i n) (hdg : decode cc pc = .ok (.aaload, 1))
    (kn : ra f a i.toNatClampNeg = none → W p l e R s m args below meth c H locs cells slots Q (F0 m (pc + 1) ls (.null :: rest)))
    (kk : ∀ b : Nat, b ∈ L ∧ sh (f b) = (0, 0, 0) → ra f a i.toNatClampNeg = some b → W p l e R s m args below meth c H locs cells slots Q (F0 m (pc + 1) ls (.ref b :: rest))) : W p l e R s m args below meth c H locs cells slots Q (F0 m pc ls (.int i :: .ref a :: rest)) := by
  obtain ⟨ha, hs⟩ := hT.at q0 hq
  obtain ⟨x, hf⟩ := sh_ref hs
  obtain ⟨j, hj⟩ := pl_get (f := f) ha
  rw [hf] at hj
  have ho := hT.1.2 a ha
  rw [hf] at ho
  refine va_aldq hx hb hK hP j t0 hj ht hin hdg ?_
  rcases ho.2.1 rfl i.toNatClampNeg (Nat.not_le.mp fun q => hin (Or.inr q)) with ⟨-, h⟩ | ⟨b, hb2, h1, h2⟩
  · rw [h]; exact kn (by simp only [ra, hf]; exact h)
  · rw [hb2]; exact kk b ⟨h1, h2⟩ (by simp only [ra, hf]; exact hb2)
theorem T_alen (hx : p.tables.exec = Jvm.exec) (hb : c.code = cc) (hK : va_K (dC, dI) vwCl tys s) (hP : va_P (dC, dI) vwCl (va_pl L f) H) (hT : TP g L f rs) (q0 t0 : Nat) {j0 cA n : Nat} (hq : rs[q0]? = some (a, (j0 + 1, cA, n))) {ty : FieldType} (ht : tys[t0]? = some (cA, ty)) {v : Int32} (hv : Int32.ofNat n = v) (hdg : decode cc pc = .ok (.arraylength, 1))
    (kk : W p l e R s m args below meth c H locs cells slots Q (F0 m (pc + 1) ls (.int v :: rest))) : W p l e R s m args below meth c H locs cells slots Q (F0 m pc ls (.ref a :: rest)) := by
  obtain ⟨ha, hs⟩ := hT.at q0 hq
  obtain ⟨j, hj⟩ := pl_get (f := f) ha
  match hf : f a with
  | .inr o => rw [hf] at hs; cases hs
  | .inl (cA', x) =>
    rw [hf] at hj hs
    obtain ⟨n', z⟩ := x
    have h1 : cA' = cA := by injection hs with _ h2; injection h2
    have h2 : n' = n := by injection hs with _ h2; injection h2
    subst h1; subst h2
    exact va_alen hx hb hK hP j t0 hj ht hv hdg kk
theorem T_putF (hx : p.tables.exec = Jvm.exec) (hb : c.code = cc) {own ref C : String} {T : u_T} {N ci index : Nat} {Ts : List Cond} (hts : ∀ w ∈ Ts, w.before args s = true) (hin : ∀ w ∈ u_ws C T N, w ∈ Ts) (ty0 : Nat → FieldType) (hty : ∀ k, k < N → parseFieldDescriptor (T k).2.2.1 = some (ty0 k)) (hnm : ∀ a, a < N → ∀ b, b < N → a ≠ b → (T a).2.1 ≠ (T b).2.1) (hown : s.vm.findClass own = some m.cls) (hK : va_K (dC, dI) vwCl tys s) (hP : va_P (dC, dI) vwCl (va_pl L f) H) (hD : va_D A (va_pl L f)) (hS : va_S A H0 H locs) (hT : TP g L f rs) (q0 : Nat) (hq : rs[q0]? = some (a, (0, ci, 0))) (hc : vwCl[ci]? = some (C, T, N)) (k : Nat) (hk : k < N) (hlink : (Cond.fieldLink own index ref (T k).2.1 (T k).2.2.1).before args s = true) (hsame : ∀ x, s.fieldFound? (T k).1 (T k).2.1 (T k).2.2.1 = some x → s.fieldFound? ref (T k).2.1 (T k).2.2.1 = some x) (hfin : (T k).2.2.2 = true) (hin2 : meth.name = "<init>") (hdecl : (T k).1 = own) {ty : FieldType} {v : Value} (hd : parseFieldDescriptor (T k).2.2.1 = some ty) (hn : narrow ty v = v) (hfit : fits ty v = true) {t : Nat × shp} (ht : (fty g ci)[k]? = some t) (hv : okv L f t v) (hdg : decode cc pc = .ok (.putfield index, 3))
    (kk : ∀ (f' : Nat → va_E) (H1 : Heap) (locs1 : List Loc), va_P (dC, dI) vwCl (va_pl L f') H1 → va_D A (va_pl L f') → va_S A H0 H1 locs1 → TP g L f' rs → Ext L f L f' → (∀ b j : Nat, rd f' b j = if b = a ∧ j = k then v else rd f b j) → (∀ b : Nat, b ≠ a → f' b = f b) → W p l e R s m args below meth c H1 locs1 cells slots Q (F0 m (pc + 3) ls rest)) : W p l e R s m args below meth c H locs cells slots Q (F0 m pc ls (v :: .ref a :: rest)) := by
  obtain ⟨ha, hs⟩ := hT.at q0 hq
  obtain ⟨fs, hf⟩ := sh_obj hs
  obtain ⟨j, hj⟩ := pl_get (f := f) ha
  have hj2 := hj
  rw [hf] at hj2
  have ho := hT.1.2 a ha
  rw [hf] at ho
  have hl : k < fs.length := by
    have h1 : fs.length = (fty g ci).length := ho.1
    rw [h1]; exact (List.getElem?_eq_some_iff.mp ht).1
  have hE : Ext L f L (va_up f a (.inr (ci, fs.set k v))) := Ext.up (by rw [hf]; rfl)
  have hW : WT g L (va_up f a (.inr (ci, fs.set k v))) := hT.1.up (by rw [hf]; rfl) (oke_set ho ht hv)
  refine va_putF hx hb hts hin ty0 hty hnm hown hK hP hD hS j hj2 hc k hk hlink hsame hfin hin2 hdecl hd hn hfit hl hdg fun H1 locs1 h1 h2 h3 => ?_
  rw [pl_set hD ha hj] at h1 h2
  exact kk _ H1 locs1 h1 h2 h3 (hT.go hE hW) hE (rd_up hf hl) (fun b hb9 => va_up_ne _ _ hb9)
theorem T_new (hx : p.tables.exec = Jvm.exec) (hb : c.code = cc) {own C : String} {T : u_T} {N ci index : Nat} {Ts : List Cond} (hts : ∀ w ∈ Ts, w.before args s = true) (hin : ∀ w ∈ u_ws C T N, w ∈ Ts) (ty : Nat → FieldType) (hty : ∀ k, k < N → parseFieldDescriptor (T k).2.2.1 = some (ty k)) (hown : s.vm.findClass own = some m.cls) (hcl : (Cond.classLink own index C).before args s = true) (hinst : (Cond.instantiable C N).before args s = true) (hini : (Cond.initialized C).before args s = true)
    (hK : va_K (dC, dI) vwCl tys s) (hP : va_P (dC, dI) vwCl (va_pl L f) H) (hD : va_D A (va_pl L f)) (hS : va_S A H0 H locs) (hA : ∀ q, H0.size ≤ q → A q) (hT : TP g L f rs) (hc : vwCl[ci]? = some (C, T, N)) {fs : List Value} (hfs : ∀ j, j < N → defaultValue (ty j) = vp_V fs j) (hok : ∀ (L' : List Nat) (f' : Nat → va_E), oke g L' f' (.inr (ci, fs))) (hcells : cells + 1 ≤ R.cells) (hslots : slots + N ≤ R.slots) (hdg : decode cc pc = .ok (.new index, 3))
    (kk : ∀ (q : Nat) (L' : List Nat) (f' : Nat → va_E) (H1 : Heap), q ∉ L → L' = L ++ [q] → va_P (dC, dI) vwCl (va_pl L' f') H1 → va_D A (va_pl L' f') → va_S A H0 H1 locs → TP g L' f' ((q, (0, ci, 0)) :: rs) → Ext L f L' f' → (∀ b j : Nat, b ≠ q → rd f' b j = rd f b j) → (∀ j : Nat, rd f' q j = fs.getD j .null) → (∀ b : Nat, b ≠ q → f' b = f b) →
      W p l e R s m args below meth c H1 locs (cells + 1) (slots + N) Q (F0 m (pc + 3) ls (.ref q :: rest))) : W p l e R s m args below meth c H locs cells slots Q (F0 m pc ls rest) := by
  refine va_new hx hb hts hin ty hty hown hcl hinst hini hK hP hD hS hA hc hfs hcells hslots hdg fun q H1 h1 h2 h3 => ?_
  have hq : q ∉ L := va_pl_fresh2 (X := []) h2
  rw [va_pl_push hq] at h1 h2
  have hE : Ext L f (L ++ [q]) (va_up f q (.inr (ci, fs))) := Ext.push hq
  refine kk q (L ++ [q]) _ H1 hq rfl h1 h2 h3 ((hT.go hE (hT.1.push hq (hok _ _))).add ⟨List.mem_append_right _ (List.mem_singleton.mpr rfl), by rw [va_up_self]; rfl⟩) hE (fun b j hb => ?_) (fun j => ?_) (fun b hb9 => va_up_ne _ _ hb9)
  · simp only [rd, va_up_ne _ _ hb]
  · simp only [rd, va_up_self]
/-- a cloth, a recipe into its row -/
theorem T_cast (hx : p.tables.exec = Jvm.exec) (hb : c.code = cc) (hK : va_K (dC, dI) vwCl tys s) (hP : va_P (dC, dI) vwCl (va_pl L f) H) (hD : va_D A (va_pl L f)) (hS : va_S A H0 H locs) (hT : TP g L f rs) (q0 t0 qk : Nat) {n v : Nat} {r : vw_C} (hq : rs[q0]? = some (a, (2, g 3, n))) (ht : tys[t0]? = some (g 3, .object r.1)) (hqk : rs[qk]? = some (v, (0, 0, 0))) (hc : vwCl[0]? = some r) {i : Int32} (hin : vp_in i n) (hdg : decode cc pc = .ok (.aastore, 1))
    (kk : ∀ (f' : Nat → va_E) (H1 : Heap) (locs1 : List Loc), va_P (dC, dI) vwCl (va_pl L f') H1 → va_D A (va_pl L f') → va_S A H0 H1 locs1 → TP g L f' rs → Ext L f L f' → (∀ b j : Nat, rd f' b j = rd f b j) → (∀ b : Nat, b ≠ a → f' b = f b) → ra f' a = va_up (ra f a) i.toNatClampNeg (some v) → W p l e R s m args below meth c H1 locs1 cells slots Q (F0 m (pc + 1) ls rest)) : W p l e R s m args below meth c H locs cells slots Q (F0 m pc ls (.ref v :: .int i :: .ref a :: rest)) := by
  obtain ⟨ha, hs⟩ := hT.at q0 hq
  obtain ⟨z, hf⟩ := sh_ref hs
  obtain ⟨j, hj⟩ := pl_get (f := f) ha
  have hj2 := hj
  rw [hf] at hj2
  obtain ⟨hva, hvs⟩ := hT.at qk hqk
  obtain ⟨vs, hvf⟩ := sh_obj hvs
  obtain ⟨jv, hjv⟩ := pl_get (f := f) hva
  rw [hvf] at hjv
  have ho := hT.1.2 a ha
  rw [hf] at ho
  have hnew : oke g L f (.inl (g 3, n, .inr (.inr (.inr (.inr (va_up z i.toNatClampNeg (some v))))))) := by
    refine ⟨fun e => absurd e (by rintro (e | e); exact hT.1.1.1 e.symm; exact hT.1.1.2.2.2.1 e.symm), fun _ k hk => ?_, fun e => absurd e hT.1.1.2.2.1⟩
    by_cases hki : k = i.toNatClampNeg
    · subst hki; rw [va_up_self]; exact Or.inr ⟨v, rfl, hva, hvs⟩
    · rw [va_up_ne _ _ hki]; exact ho.2.1 rfl k hk
  have hE : Ext L f L (va_up f a (.inl (g 3, n, .inr (.inr (.inr (.inr (va_up z i.toNatClampNeg (some v)))))))) := Ext.up (by rw [hf]; rfl)
  refine va_astq hx hb hK hP hD hS j t0 jv 0 hj2 ht hjv hc hin hdg fun H1 locs1 h1 h2 h3 => ?_
  rw [pl_set hD ha hj] at h1 h2
  exact kk _ H1 locs1 h1 h2 h3 (hT.go hE (hT.1.up (by rw [hf]; rfl) hnew)) hE (rd_arr hf) (fun b hb9 => va_up_ne _ _ hb9) (by simp only [ra, va_up_self, hf])
end TT
