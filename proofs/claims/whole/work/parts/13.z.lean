/-! contracts that say how many cells really came -/
noncomputable def hs (H : Heap) : Nat := H.foldl (fun n c => n + c.slots.size) 0
/-- at most n cells of eight places each came -/
noncomputable def Gr (H0 H : Heap) (n : Nat) : Prop := H.size ≤ H0.size + n ∧ hs H ≤ hs H0 + 8 * n
section ZZ
variable {p : Program} {l : Launch} {e : Env} {R : Room} {s : State} {m : MethodId} {args : Array Value} {below : List Frame} {meth : Method} {c : Code} {H : Heap} {locs : List Loc} {cells slots : Nat} {Q : State → Prop} {T : State}
end ZZ
noncomputable abbrev NZ : Type := Nat → (Nat → va_E) → Prop
noncomputable def Qz (dC : Nat → ClassId) (dI : Nat → Nat → Nat) (g : Nat → Nat) (L : List Nat) (f : Nat → va_E) (A : Nat → Prop) (post : KPost) (nz : NZ) : Array Value → State → Outcome → State → Prop := fun _ st oc t =>
  (∃ (r : Option Value) (u : PL) (n : Nat), oc = .returned r ∧ kpost g L f post r u ∧ nz n u.2 ∧ Gr st.heap t.heap n ∧ QW dC dI A (va_pl u.1 u.2) [] t) ∧ va_F A st t
/-- a method that returns -/
noncomputable def KZ (l : Launch) (dC : Nat → ClassId) (dI : Nat → Nat → Nat) (sa : Nat → Nat) (g : Nat → Nat) (y : MethodName) (ws : List Cond) (rm : Room) (av : List Value) (L : List Nat) (f : Nat → va_E) (sz : Nat) (post : KPost) (nz : NZ) (mc ms : Nat) : Prop :=
  Met l y ws rm (va_Pc av (PW dC dI sa (va_pl L f) (tyG g) sz)) (Qz dC dI g L f (va_A (va_pl L f) sz) post nz) mc ms (va_A (va_pl L f) sz)
/-- a method that returns or throws -/
noncomputable def KY (l : Launch) (dC : Nat → ClassId) (dI : Nat → Nat → Nat) (sa : Nat → Nat) (g : Nat → Nat) (y : MethodName) (ws : List Cond) (rm : Room) (av : List Value) (L : List Nat) (f : Nat → va_E) (sz : Nat) (post : KPost) (nz : NZ) (px : String → List Nat → (Nat → va_E) → Prop) (mc ms : Nat) : Prop :=
  vx_Met l y ws rm (va_Pc av (PW dC dI sa (va_pl L f) (tyG g) sz)) (Qz dC dI g L f (va_A (va_pl L f) sz) post nz) (XK dC dI g L f sz px) mc ms (va_A (va_pl L f) sz)
section YY
variable {p : Program} {l : Launch} {e : Env} {R : Room} {s : State} {m : MethodId} {args : Array Value} {below : List Frame} {meth : Method} {c : Code} {H : Heap} {locs : List Loc} {cells slots : Nat} {Q : State → Prop}
variable {dC : Nat → ClassId} {dI : Nat → Nat → Nat} {sa : Nat → Nat} {A : Nat → Prop} {g : Nat → Nat} {L L' : List Nat} {f f' : Nat → va_E} {rs : List (Nat × shp)}
variable {y : MethodName} {bytes cc : ByteArray} {maxL nL mc ms n index : Nat} {ret : Option FieldType} {ws ws' : List Cond} {rm : Room} {Ts : List Cond} {own Cn : String} {b : Addr} {As rest st0 : List Value} {pc : Nat} {ls : Array Slot} {av : List Value} {sz : Nat}
variable {post : KPost} {nz : NZ} {px : String → List Nat → (Nat → va_E) → Prop}
theorem KZ.start (hy : plainName y.cls = true) (hw : ws = Cond.code y cc maxL ret :: ws') (hav : (lg_sl av).length ≤ maxL)
    (body : ∀ (p : Program) (e : Env) (s : State) (m : MethodId) (below : List Frame) (meth : Method) (c : Code) (ls : Array Slot), st_At ws av y cc maxL ret p s m meth c → va_P (dC, dI) vwCl (va_pl L f) s.heap → va_K (dC, dI) vwCl (tyG g) s → va_D (va_A (va_pl L f) s.heap.size) (va_pl L f) → ev sa (va_A (va_pl L f) s.heap.size) s s.heap → va_S (va_A (va_pl L f) s.heap.size) s.heap s.heap [] → lv_has ls maxL (lv_args 0 av) →
      W p l e rm s m av.toArray below meth c s.heap [] 0 0 (MQ below (Qz dC dI g L f (va_A (va_pl L f) s.heap.size) post nz) av.toArray s mc ms (va_A (va_pl L f) s.heap.size)) (F0 m 0 ls [])) :
    KZ l dC dI sa g y ws rm av L f sz post nz mc ms := by
  refine Met.ofW (cc := cc) (maxL := maxL) (ret := ret) hy hw ?_
  intro p e s m args below meth c s₁ B hml hv
  obtain ⟨rfl, hsz, hP, hK, hD0, hev⟩ := hv
  subst hsz
  rw [lg_entry_eq]
  exact body p e s m below meth c _ ⟨B.exec, B.bytes, B.returns, hml, atoms_spec (ws := ws) B.pre, findClass_of_methodNamed B.named, B.notSynchronized, (name_of_methodNamed B.named B.method).1⟩ hP hK (hD0.self) hev va_S.rf (lv_entry av hav)
theorem KY.start (hy : plainName y.cls = true) (hw : ws = Cond.code y cc maxL ret :: ws') (hav : (lg_sl av).length ≤ maxL)
    (body : ∀ (p : Program) (e : Env) (s : State) (m : MethodId) (below : List Frame) (meth : Method) (c : Code) (ls : Array Slot), st_At ws av y cc maxL ret p s m meth c → (∀ x ∈ c.exceptionTable.toList, False) → va_P (dC, dI) vwCl (va_pl L f) s.heap → va_K (dC, dI) vwCl (tyG g) s → va_D (va_A (va_pl L f) s.heap.size) (va_pl L f) → ev sa (va_A (va_pl L f) s.heap.size) s s.heap → va_S (va_A (va_pl L f) s.heap.size) s.heap s.heap [] → lv_has ls maxL (lv_args 0 av) →
      W p l e rm s m av.toArray below meth c s.heap [] 0 0 (vx_MQ below (Qz dC dI g L f (va_A (va_pl L f) s.heap.size) post nz) (XK dC dI g L f s.heap.size px) av.toArray s mc ms (va_A (va_pl L f) s.heap.size)) (F0 m 0 ls [])) :
    KY l dC dI sa g y ws rm av L f sz post nz px mc ms := by
  refine vx_ofW (cc := cc) (maxL := maxL) (ret := ret) hy hw ?_
  intro p e s m args below meth c s₁ B hml hno hv
  obtain ⟨rfl, hsz, hP, hK, hD0, hev⟩ := hv
  subst hsz
  rw [lg_entry_eq]
  exact body p e s m below meth c _ ⟨B.exec, B.bytes, B.returns, hml, atoms_spec (ws := ws) B.pre, findClass_of_methodNamed B.named, B.notSynchronized, (name_of_methodNamed B.named B.method).1⟩ hno hP hK (hD0.self) hev va_S.rf (lv_entry av hav)
end YY
