/-! one word for what a method starts from, one for where it ends, one row for each kind of call -/
noncomputable def lenS : List Nat := [3, 3, 4, 4, 4, 4, 4, 5, 5, 2, 3, 2, 4, 4, 5, 5, 4, 6, 4, 94]
noncomputable def bytS : List (List Int32) := [[100, 105, 112], [97, 105, 114], [119, 97, 115, 104], [114, 101, 115, 116], [102, 101, 101, 100], [108, 105, 109, 101], [102, 97, 105, 108], [116, 105, 109, 101, 115], [117, 110, 116, 105, 108], [105, 102], [116, 114, 121], [100, 111], [108, 97, 115, 116], [101, 108, 115, 101], [115, 104, 97, 100, 101], [108, 111, 111, 115, 101], [104, 111, 117, 114], [103, 114, 97, 105, 110, 115], [102, 111, 111, 100], [100, 105, 112, 32, 97, 105, 114, 32, 119, 97, 115, 104, 32, 114, 101, 115, 116, 32, 102, 101, 101, 100, 32, 108, 105, 109, 101, 32, 102, 97, 105, 108, 32, 116, 105, 109, 101, 115, 32, 117, 110, 116, 105, 108, 32, 105, 102, 32, 116, 114, 121, 32, 100, 111, 32, 101, 108, 115, 101, 32, 108, 97, 115, 116, 32, 115, 104, 97, 100, 101, 32, 108, 111, 111, 115, 101, 32, 103, 114, 97, 105, 110, 115, 32, 102, 111, 111, 100, 32, 104, 111, 117, 114, 32]]
noncomputable def rowS : List (String × Nat × String) := [(RX10, 174, "dip"), (RX10, 176, "air"), (RX10, 178, "wash"), (RX10, 180, "rest"), (RX10, 182, "feed"), (RX10, 184, "lime"), (RX10, 186, "fail"), (RX10, 188, "times"), (RX10, 190, "until"), (RX10, 192, "if"), (RX10, 194, "try"), (RX10, 196, "do"), (RX10, 198, "last"), (RX10, 200, "else"), (RX10, 202, "shade"), (RX10, 204, "loose"), (RX10, 205, "hour"), (RX10, 206, "grains"), (RX10, 207, "food"), (RX6, 77, "dip air wash rest feed lime fail times until if try do else last shade loose grains food hour ")]
/-- the String constants, and two statics of the JDK -/
noncomputable def evS (sa : Nat → Nat) (A : Nat → Prop) (U : State) (H : Heap) : Prop :=
  vk_S 20 lenS bytS (fun i => sa (5 + i)) (fun i => sa (25 + i)) A U H ∧ va_Z RJ0 "COMPACT_STRINGS" "Z" (.int 1) A U H ∧ va_Zq RJ3 "SIOOBE_FORMATTER" "Ljava/util/function/BiFunction;" A U H ∧ ∀ (i : Nat) (q : String × Nat × String), rowS[i]? = some q → vk_R q.1 q.2.1 q.2.2 (sa (5 + i)) U
theorem evS.go {sa : Nat → Nat} {A B : Nat → Prop} {s U : State} {H H1 : Heap} (hW : s.WarmedH U.vm) (h : evS sa A s H) (hq : ∀ a : Nat, a < H.size → ¬ A a → H1[a]? = H[a]?) (hAB : ∀ q, B q → A q) : evS sa B U H1 :=
  ⟨((h.1.kept hq).narrow hAB).moved hW.alike, ((h.2.1.kept hq).narrow hAB).moved hW.alike, ((h.2.2.1.kept hq).narrow hAB).moved hW.alike, fun i q hi => (h.2.2.2 i q hi).warm hW⟩
/-- what the throws and the arrays of references need of the machine -/
noncomputable def ev (sa : Nat → Nat) (A : Nat → Prop) (U : State) (H : Heap) : Prop :=
  (vx_Zq Bundle.tN "UNASSIGNED_STACK" Bundle.steD A U H ∧ vx_Zq Bundle.tN "SUPPRESSED_SENTINEL" Bundle.listD A U H) ∧
  (vk_R RX8 22 "no such vat" (sa 0) U ∧ vk_R RX9 254 "out of range" (sa 1) U ∧ vk_R RX9 250 "no such cloth" (sa 2) U ∧ vk_R RX9 151 "no such what" (sa 3) U ∧ vk_R RX9 189 "no such dip" (sa 4) U) ∧
  (va_Nw (.castable NSE NSE) U ∧ va_Nw (.castable IAE IAE) U ∧ va_Nc IAE NSE U) ∧
  (va_Nw (.declares (Bundle.initS "java/lang/RuntimeException")) U ∧ va_Nw (.declares (Bundle.initS "java/lang/Exception")) U ∧ va_Nw (.declares (Bundle.initS Bundle.tN)) U) ∧
  (va_AO "VatHouse$Vat" U ∧ va_AO "VatHouse$Cloth" U ∧ va_AO "VatHouse$Recipe" U) ∧ evS sa A U H
theorem ev.go {sa : Nat → Nat} {A B : Nat → Prop} {s U : State} {H H1 : Heap} (hW : s.WarmedH U.vm) (h : ev sa A s H) (hq : ∀ a : Nat, a < H.size → ¬ A a → H1[a]? = H[a]?) (hAB : ∀ q, B q → A q) : ev sa B U H1 := by
  obtain ⟨⟨z1, z2⟩, ⟨r1, r2, r3, r4, r5⟩, ⟨c1, c2, c3⟩, ⟨n1, n2, n3⟩, ⟨o1, o2, o3⟩, se⟩ := h
  exact ⟨⟨((z1.kept hq).narrow hAB).moved hW.alike, ((z2.kept hq).narrow hAB).moved hW.alike⟩, ⟨r1.warm hW, r2.warm hW, r3.warm hW, r4.warm hW, r5.warm hW⟩, ⟨c1.warmC hW, c2.warmC hW, c3.moved hW.alike⟩, ⟨n1.warmD hW, n2.warmD hW, n3.warmD hW⟩, ⟨o1.moved hW.alike, o2.moved hW.alike, o3.moved hW.alike⟩, se.go hW hq hAB⟩
noncomputable def PW (dC : Nat → ClassId) (dI : Nat → Nat → Nat) (sa : Nat → Nat) (wc : va_W) (tys : List (ClassId × FieldType)) (sz : Nat) (U : State) : Prop :=
  U.heap.size = sz ∧ va_P (dC, dI) vwCl wc U.heap ∧ va_K (dC, dI) vwCl tys U ∧ va_D (fun _ => True) wc ∧ ev sa (va_A wc sz) U U.heap
noncomputable def QW (dC : Nat → ClassId) (dI : Nat → Nat → Nat) (A : Nat → Prop) (w : va_W) (tys : List (ClassId × FieldType)) (t : State) : Prop :=
  va_P (dC, dI) vwCl w t.heap ∧ va_K (dC, dI) vwCl tys t ∧ va_D A w
noncomputable def Qg {S : Type} (post : Option Value → S → Prop) (B : S → State → Prop) (A : Nat → Prop) : Array Value → State → Outcome → State → Prop := fun _ st oc t => (∃ (r : Option Value) (u : S), oc = .returned r ∧ post r u ∧ B u t) ∧ va_F A st t
noncomputable def XCq (dC : Nat → ClassId) (dI : Nat → Nat → Nat) (wc : va_W) (sz : Nat) (px : String → Prop) : String → State → State → Prop := fun E st t => px E ∧ QW dC dI (va_A wc sz) wc [] t ∧ va_F (va_A wc sz) st t
/-- a method that returns -/
noncomputable def CT (l : Launch) (dC : Nat → ClassId) (dI : Nat → Nat → Nat) (sa : Nat → Nat) (y : MethodName) (ws : List Cond) (rm : Room) (av : List Value) (wc : va_W) (tysc : List (ClassId × FieldType)) (sz : Nat) {S : Type} (post : Option Value → S → Prop) (wB : S → va_W) (tB : S → List (ClassId × FieldType)) (mc ms : Nat) : Prop :=
  Met l y ws rm (va_Pc av (PW dC dI sa wc tysc sz)) (Qg post (fun u t => QW dC dI (va_A wc sz) (wB u) (tB u) t) (va_A wc sz)) mc ms (va_A wc sz)
/-- a method that returns or throws; where it throws, its world is as it was -/
noncomputable def CX (l : Launch) (dC : Nat → ClassId) (dI : Nat → Nat → Nat) (sa : Nat → Nat) (y : MethodName) (ws : List Cond) (rm : Room) (av : List Value) (wc : va_W) (tysc : List (ClassId × FieldType)) (sz : Nat) {S : Type} (post : Option Value → S → Prop) (wB : S → va_W) (tB : S → List (ClassId × FieldType)) (px : String → Prop) (mc ms : Nat) : Prop :=
  vx_Met l y ws rm (va_Pc av (PW dC dI sa wc tysc sz)) (Qg post (fun u t => QW dC dI (va_A wc sz) (wB u) (tB u) t) (va_A wc sz)) (XCq dC dI wc sz px) mc ms (va_A wc sz)
theorem PW.blind {dC : Nat → ClassId} {dI : Nat → Nat → Nat} {sa : Nat → Nat} {wc : va_W} {tys : List (ClassId × FieldType)} {sz : Nat} {av : List Value} : FrameBlind (va_Pc av (PW dC dI sa wc tys sz)) := fun a U g mk q => by
  obtain ⟨q0, q1, qP, qK, qD, qe⟩ := q
  exact ⟨q0, q1, qP, va_K.moved (u := U) (U := U.calling g mk a) (Vm.Alike.refl U.vm) qK, qD, ev.go (s := U) (U := U.calling g mk a) (State.WarmedH.refl U) qe (fun _ _ _ => rfl) (fun _ h => h)⟩
theorem pick_some {α β : Type} {f : α → Option β} {is : List α} {w : List β} (h : is.map f = w.map some) : is.filterMap f = w := by
  have h2 := congrArg (List.filterMap id) h
  rw [List.filterMap_map, List.filterMap_map] at h2
  simpa using h2
theorem PW.at {dC : Nat → ClassId} {dI : Nat → Nat → Nat} {sa : Nat → Nat} {A : Nat → Prop} {s : State} {H : Heap} {locs : List Loc} {w wc : va_W} {tys tysc : List (ClassId × FieldType)} (hP : va_P (dC, dI) vwCl w H) (hD : va_D A w) (hK : va_K (dC, dI) vwCl tys s) (hS : va_S A s.heap H locs) (hA : ∀ q, s.heap.size ≤ q → A q) (hev : ev sa A s s.heap)
    (isC isT : List Nat) (hC : isC.map (fun i => w[i]?) = wc.map some) (hn : va_nd isC = true) (hT : isT.filterMap (fun i => tys[i]?) = tysc) : ∀ U : State, U.heap = H → s.WarmedH U.vm → PW dC dI sa wc tysc H.size U := by
  intro U hU hW
  have hFc := va_free (wc := wc) hD hS hA isC hC
  refine ⟨by rw [hU], by rw [hU]; exact hP.sub isC (pick_some hC), va_K.moved hW.alike (hK.sub isT hT), (hD.sub isC hn hC).weaken (fun _ _ _ _ => trivial), ?_⟩
  rw [hU]
  exact ev.go hW hev (fun a h1 h2 => hS.2.1 a h1 h2) hFc
section GO
variable {p : Program} {l : Launch} {e : Env} {R : Room} {s : State} {m : MethodId} {args : Array Value} {below : List Frame} {meth : Method} {c : Code} {H : Heap} {locs : List Loc} {cells slots : Nat} {Q : State → Prop}
variable {dC : Nat → ClassId} {dI : Nat → Nat → Nat} {sa : Nat → Nat} {A : Nat → Prop} {w wc wr : va_W} {tys tysc : List (ClassId × FieldType)}
variable {y : MethodName} {bytes cc : ByteArray} {maxL nL mc ms n index : Nat} {ret : Option FieldType} {ws : List Cond} {rm : Room} {Ts : List Cond} {own Cn : String} {b : Addr} {As rest st0 : List Value} {pc : Nat} {ls : Array Slot} {av : List Value}
variable {S : Type} {post : Option Value → S → Prop} {wB : S → va_W} {tB : S → List (ClassId × FieldType)} {px : String → Prop}
/-- behind a call that returns -/
theorem go_run (hr : va_Run p l e R s m args below meth c H locs cells slots mc ms (F0 m pc ls st0) rest (Qg post (fun u t => QW dC dI (va_A wc H.size) (wB u) (tB u) t) (va_A wc H.size) av.toArray) (va_A wc H.size))
    (hP : va_P (dC, dI) vwCl w H) (hD : va_D A w) (hK : va_K (dC, dI) vwCl tys s) (hS : va_S A s.heap H locs) (hA : ∀ q, s.heap.size ≤ q → A q) (isC isR : List Nat) (hC : isC.map (fun i => w[i]?) = wc.map some) (hR : isR.map (fun i => w[i]?) = wr.map some) (hn : va_nd isR = true) (hdis : ∀ i ∈ isR, i ∉ isC)
    (kk : ∀ (r : Option Value) (u : S) (H1 : Heap) (locs1 : List Loc), post r u → va_P (dC, dI) vwCl (wr ++ wB u) H1 → va_D A (wr ++ wB u) → va_K (dC, dI) vwCl (tys ++ tB u) s → va_S A s.heap H1 locs1 → W p l e R s m args below meth c H1 locs1 (cells + mc) (slots + ms) Q (F0 m (pc + 3) ls (r.toList ++ rest))) :
    W p l e R s m args below meth c H locs cells slots Q (F0 m pc ls st0) := by
  intro T hT X
  have hFc := va_free (wc := wc) hD hS hA isC hC
  obtain ⟨v, st₀, t, T', L, h0, X', hL, e1, e2, ⟨⟨r, u, hv, hp, hb⟩, hF⟩, st⟩ := hr T hT X
  cases hv
  obtain ⟨k1, k2, k3⟩ := vx_keep h0 e1 hS (fun q _ h => hFc q h) hFc hL hF
  obtain ⟨hP1, hK1, hD1⟩ := hb
  rw [← e1] at hP1
  obtain ⟨hP2, hD2⟩ := va_join hP hD isC isR hC hR hn hdis k2 hFc hP1 hD1
  have hal : s.vm.Alike t.vm := by rw [← e2]; exact X'.warmed.alike
  obtain ⟨t2, a1, b1⟩ := kk v u T'.heap (locs ++ L) hp hP2 hD2 (hK.app (va_K.moved hal.symm hK1)) k3 T' rfl X'
  exact ⟨t2, st t2 a1, b1⟩
theorem go_I (C0 : CallFix p m c cc nL s args Ts own) (M : CT l dC dI sa y ws rm (.ref b :: As) wc tysc H.size post wB tB mc ms) (cw : CallB R s args own index y bytes maxL none ws rm mc ms n ∧ y.name = "<init>" ∧ (Cond.instanceMethod y).before args s = true)
    (hP : va_P (dC, dI) vwCl w H) (hD : va_D A w) (hK : va_K (dC, dI) vwCl tys s) (hS : va_S A s.heap H locs) (hA : ∀ q, s.heap.size ≤ q → A q) (hev : ev sa A s s.heap)
    (isC isR isT : List Nat) (hC : isC.map (fun i => w[i]?) = wc.map some) (hnC : va_nd isC = true) (hR : isR.map (fun i => w[i]?) = wr.map some) (hn : va_nd isR = true) (hdis : ∀ i ∈ isR, i ∉ isC) (hT : isT.filterMap (fun i => tys[i]?) = tysc)
    (hn0 : As.length = n) (hsz : ls.size = nL) (hst : st0 = As.reverse ++ .ref b :: rest) (hW : (rest.map fun v => v.category).sum ≤ 8) (hdg : decode cc pc = .ok (.invokespecial index, 3)) (hf : cells + mc ≤ R.cells ∧ slots + ms ≤ R.slots)
    (kk : ∀ (r : Option Value) (u : S) (H1 : Heap) (locs1 : List Loc), post r u → va_P (dC, dI) vwCl (wr ++ wB u) H1 → va_D A (wr ++ wB u) → va_K (dC, dI) vwCl (tys ++ tB u) s → va_S A s.heap H1 locs1 → W p l e R s m args below meth c H1 locs1 (cells + mc) (slots + ms) Q (F0 m (pc + 3) ls (r.toList ++ rest))) :
    W p l e R s m args below meth c H locs cells slots Q (F0 m pc ls st0) := by
  have hat := PW.at (wc := wc) (tysc := tysc) hP hD hK hS hA hev isC isT hC hnC hT
  exact go_run (av := .ref b :: As) (va_runI C0 M cw ⟨PW.blind, fun U hU hW => ⟨rfl, hat U hU hW⟩⟩ rfl hn0 hsz hst (lv_room hW) hdg hf) hP hD hK hS hA isC isR hC hR hn hdis kk
end GO
section ST
variable {l : Launch} {dC : Nat → ClassId} {dI : Nat → Nat → Nat} {sa : Nat → Nat} {y : MethodName} {ws ws' : List Cond} {rm : Room} {av : List Value} {wc : va_W} {tysc : List (ClassId × FieldType)} {sz : Nat} {S : Type} {post : Option Value → S → Prop} {wB : S → va_W} {tB : S → List (ClassId × FieldType)} {px : String → Prop} {mc ms : Nat} {cc : ByteArray} {maxL : Nat} {ret : Option FieldType}
/-- what a body has at its start -/
noncomputable def st_At (ws : List Cond) (av : List Value) (y : MethodName) (cc : ByteArray) (maxL : Nat) (ret : Option FieldType) (p : Program) (s : State) (m : MethodId) (meth : Method) (c : Code) : Prop :=
  p.tables.exec = Jvm.exec ∧ c.code = cc ∧ meth.sig.returnType = ret ∧ c.maxLocals = maxL ∧ (∀ w ∈ ws, w.before av.toArray s = true) ∧ s.vm.findClass y.cls = some m.cls ∧ meth.locks = false ∧ meth.name = y.name
theorem CT.start (hy : plainName y.cls = true) (hw : ws = Cond.code y cc maxL ret :: ws') (hav : (lg_sl av).length ≤ maxL)
    (body : ∀ (p : Program) (e : Env) (s : State) (m : MethodId) (below : List Frame) (meth : Method) (c : Code) (ls : Array Slot), st_At ws av y cc maxL ret p s m meth c → va_P (dC, dI) vwCl wc s.heap → va_K (dC, dI) vwCl tysc s → va_D (va_A wc s.heap.size) wc → ev sa (va_A wc s.heap.size) s s.heap → va_S (va_A wc s.heap.size) s.heap s.heap [] → lv_has ls maxL (lv_args 0 av) →
      W p l e rm s m av.toArray below meth c s.heap [] 0 0 (MQ below (Qg post (fun u t => QW dC dI (va_A wc s.heap.size) (wB u) (tB u) t) (va_A wc s.heap.size)) av.toArray s mc ms (va_A wc s.heap.size)) (F0 m 0 ls [])) :
    CT l dC dI sa y ws rm av wc tysc sz post wB tB mc ms := by
  refine Met.ofW (cc := cc) (maxL := maxL) (ret := ret) hy hw ?_
  intro p e s m args below meth c s₁ B hml hv
  obtain ⟨rfl, hsz, hP, hK, hD0, hev⟩ := hv
  subst hsz
  rw [lg_entry_eq]
  exact body p e s m below meth c _ ⟨B.exec, B.bytes, B.returns, hml, atoms_spec (ws := ws) B.pre, findClass_of_methodNamed B.named, B.notSynchronized, (name_of_methodNamed B.named B.method).1⟩ hP hK (hD0.self) hev va_S.rf (lv_entry av hav)
theorem CX.start (hy : plainName y.cls = true) (hw : ws = Cond.code y cc maxL ret :: ws') (hav : (lg_sl av).length ≤ maxL)
    (body : ∀ (p : Program) (e : Env) (s : State) (m : MethodId) (below : List Frame) (meth : Method) (c : Code) (ls : Array Slot), st_At ws av y cc maxL ret p s m meth c → (∀ x ∈ c.exceptionTable.toList, False) → va_P (dC, dI) vwCl wc s.heap → va_K (dC, dI) vwCl tysc s → va_D (va_A wc s.heap.size) wc → ev sa (va_A wc s.heap.size) s s.heap → va_S (va_A wc s.heap.size) s.heap s.heap [] → lv_has ls maxL (lv_args 0 av) →
      W p l e rm s m av.toArray below meth c s.heap [] 0 0 (vx_MQ below (Qg post (fun u t => QW dC dI (va_A wc s.heap.size) (wB u) (tB u) t) (va_A wc s.heap.size)) (XCq dC dI wc s.heap.size px) av.toArray s mc ms (va_A wc s.heap.size)) (F0 m 0 ls [])) :
    CX l dC dI sa y ws rm av wc tysc sz post wB tB px mc ms := by
  refine vx_ofW (cc := cc) (maxL := maxL) (ret := ret) hy hw ?_
  intro p e s m args below meth c s₁ B hml hno hv
  obtain ⟨rfl, hsz, hP, hK, hD0, hev⟩ := hv
  subst hsz
  rw [lg_entry_eq]
  exact body p e s m below meth c _ ⟨B.exec, B.bytes, B.returns, hml, atoms_spec (ws := ws) B.pre, findClass_of_methodNamed B.named, B.notSynchronized, (name_of_methodNamed B.named B.method).1⟩ hno hP hK (hD0.self) hev va_S.rf (lv_entry av hav)
/-- a method with a table of its own that returns -/
theorem CT.startW {hh : List (Nat × Nat × Nat × Nat)} (hy : plainName y.cls = true) (hw : ws = Cond.codeWith y cc maxL ret hh :: ws') (hav : (lg_sl av).length ≤ maxL)
    (body : ∀ (p : Program) (e : Env) (s : State) (m : MethodId) (below : List Frame) (meth : Method) (c : Code) (ls : Array Slot), st_At ws av y cc maxL ret p s m meth c → c.exceptionTable.toList = tableOf hh → va_P (dC, dI) vwCl wc s.heap → va_K (dC, dI) vwCl tysc s → va_D (va_A wc s.heap.size) wc → ev sa (va_A wc s.heap.size) s s.heap → va_S (va_A wc s.heap.size) s.heap s.heap [] → lv_has ls maxL (lv_args 0 av) →
      W p l e rm s m av.toArray below meth c s.heap [] 0 0 (MQ below (Qg post (fun u t => QW dC dI (va_A wc s.heap.size) (wB u) (tB u) t) (va_A wc s.heap.size)) av.toArray s mc ms (va_A wc s.heap.size)) (F0 m 0 ls [])) :
    CT l dC dI sa y ws rm av wc tysc sz post wB tB mc ms := by
  unfold CT Met
  refine MetFree.of_bodyS (code := cc) (maxLocals := maxL) (ret := ret) hy ?_ ?_
  · intro args s m h hn
    obtain ⟨m9, meth, c, hn9, h1, h2, h3, h4, -, h5, h6, -⟩ := Cond.codeWith_spec (atoms_spec (ws := ws) h _ (by rw [hw]; exact List.mem_cons_self))
    cases Option.some.inj (hn9.symm.trans hn)
    exact ⟨meth, c, h1, h2, h3, h4, h5, h6⟩
  · intro p e s m args below meth c s₁ B hml hv _
    obtain ⟨rfl, hsz, hP, hK, hD0, hev⟩ := hv
    subst hsz
    have hh0 : s₁.heap = s.heap := by rw [B.state]; rfl
    have htab := vx_table (x := y) B (atoms_spec (ws := ws) B.pre _ (by rw [hw]; exact List.mem_cons_self))
    have K := body p e s m below meth c _ ⟨B.exec, B.bytes, B.returns, hml, atoms_spec (ws := ws) B.pre, findClass_of_methodNamed B.named, B.notSynchronized, (name_of_methodNamed B.named B.method).1⟩ htab hP hK (hD0.self) hev va_S.rf (lv_entry av hav)
    rw [← lg_entry_eq] at K
    obtain ⟨t, a1, o, b1, b2, b3⟩ := K s₁ hh0 (Stand.of_body B)
    exact ⟨t, o, a1, b1, b2, b3⟩
end ST
section EN
variable {p : Program} {l : Launch} {e : Env} {R : Room} {s : State} {m : MethodId} {args : Array Value} {below : List Frame} {meth : Method} {c : Code} {H : Heap} {locs : List Loc} {cells slots : Nat}
variable {dC : Nat → ClassId} {dI : Nat → Nat → Nat} {sa : Nat → Nat} {w wc : va_W} {tys : List (ClassId × FieldType)} {S : Type} {post : Option Value → S → Prop} {wB : S → va_W} {tB : S → List (ClassId × FieldType)} {px : String → Prop} {mc ms : Nat} {cc : ByteArray} {pc : Nat} {ls : Array Slot}
/-- what is owed at an end -/
theorem en_q (r : Option Value) (hP : va_P (dC, dI) vwCl w H) (hD : va_D (va_A wc s.heap.size) w) (hK : va_K (dC, dI) vwCl tys s) (hS : va_S (va_A wc s.heap.size) s.heap H locs) (u : S) (hpost : post r u) (is isT : List Nat) (hi : is.map (fun i => w[i]?) = (wB u).map some) (hnd : va_nd is = true) (hT : isT.filterMap (fun i => tys[i]?) = tB u) :
    ∀ t : State, t.heap = H → s.WarmedH t.vm → Qg post (fun u t => QW dC dI (va_A wc s.heap.size) (wB u) (tB u) t) (va_A wc s.heap.size) args s (.returned r) t := fun t ht hW =>
  ⟨⟨r, u, rfl, hpost, by rw [ht]; exact hP.sub is (pick_some hi), va_K.moved hW.alike (hK.sub isT hT), hD.sub is hnd hi⟩, hS.F ht⟩
theorem en_v (hx : p.tables.exec = Jvm.exec) (hb : c.code = cc) (hr : meth.sig.returnType = none) (hlocks : meth.locks = false) (hP : va_P (dC, dI) vwCl w H) (hD : va_D (va_A wc s.heap.size) w) (hK : va_K (dC, dI) vwCl tys s) (hS : va_S (va_A wc s.heap.size) s.heap H locs) (u : S) (hpost : post none u) (is isT : List Nat) (hi : is.map (fun i => w[i]?) = (wB u).map some) (hnd : va_nd is = true) (hT : isT.filterMap (fun i => tys[i]?) = tB u) (hc : cells ≤ mc) (hs : slots ≤ ms) (hdg : decode cc pc = .ok (.return_, 1)) :
    W p l e R s m args below meth c H locs cells slots (MQ below (Qg post (fun u t => QW dC dI (va_A wc s.heap.size) (wB u) (tB u) t) (va_A wc s.heap.size)) args s mc ms (va_A wc s.heap.size)) (F0 m pc ls []) :=
  W.widen hc hs (W.vret hx hb hr (en_q _ hP hD hK hS u hpost is isT hi hnd hT) hS.2.2 hdg hlocks)
/-- the words of a throw that no method's list bears -/
noncomputable def xB (cls : String) : List Cond := [.castable cls cls, .declares (Bundle.initS "java/lang/RuntimeException"), .declares (Bundle.initS "java/lang/Exception"), .declares (Bundle.initS Bundle.tN)]
end EN
theorem xg_0 : decode b13 0 = .ok (.aload_n 0, 1) := by decide +kernel
theorem xg_1 : decode b13 1 = .ok (.aload_n 1, 1) := by decide +kernel
theorem xg_2 : decode b13 2 = .ok (.invokespecial 13, 3) := by decide +kernel
theorem xg_5 : decode b13 5 = .ok (.return_, 1) := by decide +kernel
theorem xb_8 : ∀ w ∈ (xN RX8 24).filter (fun w => !goodWord w), w ∈ xB NSE := by decide +kernel
theorem xb_9 : ∀ w ∈ (xN RX9 153).filter (fun w => !goodWord w), w ∈ xB NSE := by decide +kernel
theorem xb_i : ∀ w ∈ (xI RX9 256).filter (fun w => !goodWord w), w ∈ xB IAE := by decide +kernel
theorem xo_8 : ∀ w ∈ Cond.classLink RX8 20 NSE :: Cond.initialized NSE :: xN RX8 24, vx_ot w = true := by decide +kernel
theorem xo_9 : ∀ w ∈ Cond.classLink RX9 149 NSE :: Cond.initialized NSE :: xN RX9 153, vx_ot w = true := by decide +kernel
theorem xo_i : ∀ w ∈ Cond.classLink RX9 252 IAE :: Cond.initialized IAE :: xI RX9 256, vx_ot w = true := by decide +kernel
