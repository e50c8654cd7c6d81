/-! contracts that say how many cells really came -/
noncomputable def hs (H : Heap) : Nat := H.foldl (fun n c => n + c.slots.size) 0
/-- at most n cells of eight places each came -/
noncomputable def Gr (H0 H : Heap) (n : Nat) : Prop := H.size ≤ H0.size + n ∧ hs H ≤ hs H0 + 8 * n
section ZZ
variable {p : Program} {l : Launch} {e : Env} {R : Room} {s : State} {m : MethodId} {args : Array Value} {below : List Frame} {meth : Method} {c : Code} {H : Heap} {locs : List Loc} {cells slots : Nat} {Q : State → Prop} {T : State}
theorem stand_hs (X : Stand p l e R s m args below meth c T locs cells slots) : hs T.heap ≤ hs s.heap + slots := by
  have h1 : T.slotsUsed = hs T.heap := by
    have h := X.book
    simp only [State.slotsTrue, beq_iff_eq] at h
    exact h
  have h2 : s.slotsUsed = hs s.heap := by
    have h := X.room
    simp only [State.hasRoom, Bool.and_eq_true] at h
    have h := h.2
    simp only [State.slotsTrue, beq_iff_eq] at h
    exact h
  rw [← h1, ← h2]
  exact X.used
theorem stand_tight {k n : Nat} (X : Stand p l e R s m args below meth c T locs cells slots) (h1 : T.heap.size ≤ s.heap.size + k) (h2 : hs T.heap ≤ hs s.heap + n) : Stand p l e R s m args below meth c T locs k n := by
  have e1 : T.slotsUsed = hs T.heap := by
    have h := X.book
    simp only [State.slotsTrue, beq_iff_eq] at h
    exact h
  have e2 : s.slotsUsed = hs s.heap := by
    have h := X.room
    simp only [State.hasRoom, Bool.and_eq_true] at h
    have h := h.2
    simp only [State.slotsTrue, beq_iff_eq] at h
    exact h
  obtain ⟨a1, a2, a3, a4, a5, a6, a7, a8, a9, a10, a11, a12, a13, b1, b2, b3, b4, b5, b6⟩ := X
  refine ⟨a1, a2, a3, a4, a5, a6, a7, a8, a9, a10, a11, a12, a13, b1, b2, h1, b4, ?_, b6⟩
  have b4' : T.slotsUsed = s.slotsUsed + (((T.setVm s.vm).heap.toList.drop s.heap.size).map (·.slots.size)).sum := b4
  rw [e1, e2] at b4'
  omega
theorem W_gr {gf : JFrame} (h8 : slots ≤ 8 * cells) (k : Gr s.heap H cells → W p l e R s m args below meth c H locs cells slots Q gf) : W p l e R s m args below meth c H locs cells slots Q gf := fun T hT X =>
  k ⟨by rw [← hT]; exact X.heapSize, by rw [← hT]; exact Nat.le_trans (stand_hs X) (Nat.add_le_add_left h8 _)⟩ T hT X
end ZZ
noncomputable abbrev NZ : Type := Nat → (Nat → va_E) → Prop
noncomputable def Qz (dC : Nat → ClassId) (dI : Nat → Nat → Nat) (g : Nat → Nat) (L : List Nat) (f : Nat → va_E) (A : Nat → Prop) (post : KPost) (nz : NZ) : Array Value → State → Outcome → State → Prop := fun _ st oc t =>
  (∃ (r : Option Value) (u : PL) (n : Nat), oc = .returned r ∧ kpost g L f post r u ∧ nz n u.2 ∧ Gr st.heap t.heap n ∧ QW dC dI A (va_pl u.1 u.2) [] t) ∧ va_F A st t
/-- a method that returns -/
noncomputable def KZ (l : Launch) (dC : Nat → ClassId) (dI : Nat → Nat → Nat) (sa : Nat → Nat) (g : Nat → Nat) (y : MethodName) (ws : List Cond) (rm : Room) (av : List Value) (L : List Nat) (f : Nat → va_E) (sz : Nat) (post : KPost) (nz : NZ) (mc ms : Nat) : Prop :=
  Met l y ws rm (va_Pc av (PW dC dI sa (va_pl L f) (tyG g) sz)) (Qz dC dI g L f (va_A (va_pl L f) sz) post nz) mc ms (va_A (va_pl L f) sz)
/-- a method that returns or throws -/
noncomputable def KY (l : Launch) (dC : Nat → ClassId) (dI : Nat → Nat → Nat) (sa : Nat → Nat) (g : Nat → Nat) (y : MethodName) (ws : List Cond) (rm : Room) (av : List Value) (L : List Nat) (f : Nat → va_E) (sz : Nat) (post : KPost) (nz : NZ) (px : String → List Nat → (Nat → va_E) → Prop) (mc ms : Nat) : Prop :=
  vx_Met l y ws rm (va_Pc av (PW dC dI sa (va_pl L f) (tyG g) sz)) (Qz dC dI g L f (va_A (va_pl L f) sz) post nz) (XK dC dI g L f sz px) mc ms (va_A (va_pl L f) sz)
section YY
variable {p : Program} {l : Launch} {e : Env} {R : Room} {s : State} {m : MethodId} {args : Array Value} {below : List Frame} {meth : Method} {c : Code} {H : Heap} {locs : List Loc} {cells slots : Nat} {Q : State → Prop}
variable {dC : Nat → ClassId} {dI : Nat → Nat → Nat} {sa : Nat → Nat} {A : Nat → Prop} {g : Nat → Nat} {L L' : List Nat} {f f' : Nat → va_E} {rs : List (Nat × shp)}
variable {y : MethodName} {bytes cc : ByteArray} {maxL nL mc ms n index : Nat} {ret : Option FieldType} {ws ws' : List Cond} {rm : Room} {Ts : List Cond} {own Cn : String} {b : Addr} {As rest st0 : List Value} {pc : Nat} {ls : Array Slot} {av : List Value} {sz : Nat}
variable {post : KPost} {nz : NZ} {px : String → List Nat → (Nat → va_E) → Prop}
theorem K_runZ (hr : va_Run p l e R s m args below meth c H locs cells slots mc ms (F0 m pc ls st0) rest (Qz dC dI g L f (va_A (va_pl L f) H.size) post nz av.toArray) (va_A (va_pl L f) H.size))
    (hD : va_D A (va_pl L f)) (hS : va_S A s.heap H locs) (hA : ∀ q, s.heap.size ≤ q → A q) (hT : TP g L f rs)
    (kk : ∀ (r : Option Value) (L' : List Nat) (f' : Nat → va_E) (n : Nat) (H1 : Heap) (locs1 : List Loc), post r L' f' → nz n f' → va_P (dC, dI) vwCl (va_pl L' f') H1 → va_D A (va_pl L' f') → va_S A s.heap H1 locs1 → TP g L' f' rs → Ext L f L' f' → W p l e R s m args below meth c H1 locs1 (cells + n) (slots + 8 * n) Q (F0 m (pc + 3) ls (r.toList ++ rest))) :
    W p l e R s m args below meth c H locs cells slots Q (F0 m pc ls st0) := by
  intro T hT0 X
  have hFc := free_all hD hS hA
  obtain ⟨v, st₀, t, T', Lo, h0, X', hL, e1, e2, ⟨⟨r, ⟨L', f'⟩, n, hv, ⟨hW, hE, hp⟩, hn, hG, hb⟩, hF⟩, st⟩ := hr T hT0 X
  cases hv
  obtain ⟨k1, k2, k3⟩ := vx_keep h0 e1 hS (fun q _ h => hFc q h) hFc hL hF
  obtain ⟨hP1, hK1, hD1⟩ := hb
  rw [← e1] at hP1
  have hX1 := X.heapSize
  have hX2 := stand_hs X
  rw [hT0] at hX1 hX2
  rw [h0, ← e1] at hG
  have X2 := stand_tight (k := cells + n) (n := slots + 8 * n) X' (by have := hG.1; omega) (by have := hG.2; omega)
  obtain ⟨t2, a1, b1⟩ := kk v L' f' n T'.heap (locs ++ Lo) hp hn hP1 (hD1.weaken (fun _ q _ h => hFc q.1 h)) k3 (hT.go hE hW) hE T' rfl X2
  exact ⟨t2, st t2 a1, b1⟩
theorem K_VZ (C0 : CallFix p m c cc nL s args Ts own) (M : KZ l dC dI sa g y ws rm (.ref b :: As) L f H.size post nz mc ms) (cw : CallW R s args own Cn index y bytes maxL ret ws rm mc ms n)
    (hP : va_P (dC, dI) vwCl (va_pl L f) H) (hD : va_D A (va_pl L f)) (hK : va_K (dC, dI) vwCl (tyG g) s) (hS : va_S A s.heap H locs) (hA : ∀ q, s.heap.size ≤ q → A q) (hev : ev sa A s s.heap) (hT : TP g L f rs)
    (q0 ci : Nat) (hq : rs[q0]? = some (b, (0, ci, 0))) {qc : vw_C} (hci : vwCl[ci]? = some qc) (hqc : qc.1 = Cn)
    (hn0 : As.length = n) (hsz : ls.size = nL) (hst : st0 = As.reverse ++ .ref b :: rest) (hW : (rest.map fun v => v.category).sum ≤ 8) (hdg : decode cc pc = .ok (.invokevirtual index, 3)) (hf : cells + mc ≤ R.cells ∧ slots + ms ≤ R.slots)
    (kk : ∀ (r : Option Value) (L' : List Nat) (f' : Nat → va_E) (n : Nat) (H1 : Heap) (locs1 : List Loc), post r L' f' → nz n f' → va_P (dC, dI) vwCl (va_pl L' f') H1 → va_D A (va_pl L' f') → va_S A s.heap H1 locs1 → TP g L' f' rs → Ext L f L' f' → W p l e R s m args below meth c H1 locs1 (cells + n) (slots + 8 * n) Q (F0 m (pc + 3) ls (r.toList ++ rest))) :
    W p l e R s m args below meth c H locs cells slots Q (F0 m pc ls st0) := by
  subst hqc
  have hat := K_at hP hD hK hS hA hev
  obtain ⟨j, fs, he⟩ := K_recv hK hP hT q0 hq hci
  exact K_runZ (av := .ref b :: As) (va_runV C0 M cw ⟨PW.blind, va_recv hK hP hci he, fun U hU hW => ⟨rfl, hat U hU hW⟩⟩ rfl hn0 hsz hst (lv_room hW) hdg hf) hD hS hA hT kk
theorem KZ.start (hy : plainName y.cls = true) (hw : ws = Cond.code y cc maxL ret :: ws') (hav : (lg_sl av).length ≤ maxL)
    (body : ∀ (p : Program) (e : Env) (s : State) (m : MethodId) (below : List Frame) (meth : Method) (c : Code) (ls : Array Slot), st_At ws av y cc maxL ret p s m meth c → va_P (dC, dI) vwCl (va_pl L f) s.heap → va_K (dC, dI) vwCl (tyG g) s → va_D (va_A (va_pl L f) s.heap.size) (va_pl L f) → ev sa (va_A (va_pl L f) s.heap.size) s s.heap → va_S (va_A (va_pl L f) s.heap.size) s.heap s.heap [] → lv_has ls maxL (lv_args 0 av) →
      W p l e rm s m av.toArray below meth c s.heap [] 0 0 (MQ below (Qz dC dI g L f (va_A (va_pl L f) s.heap.size) post nz) av.toArray s mc ms (va_A (va_pl L f) s.heap.size)) (F0 m 0 ls [])) :
    KZ l dC dI sa g y ws rm av L f sz post nz mc ms := by
  refine Met.ofW (cc := cc) (maxL := maxL) (ret := ret) hy hw ?_
  intro p e s m args below meth c s₁ B hml hv
  obtain ⟨rfl, hsz, hP, hK, hD0, hev⟩ := hv
  subst hsz
  rw [lg_entry_eq]
  exact body p e s m below meth c _ ⟨B.exec, B.bytes, B.returns, hml, atoms_spec (ws := ws) B.pre, findClass_of_methodNamed B.named, B.notSynchronized, (name_of_methodNamed B.named B.method).1⟩ hP hK (hD0.self) hev va_S.rf (lv_entry av hav)
theorem KY.start (hy : plainName y.cls = true) (hw : ws = Cond.code y cc maxL ret :: ws') (hav : (lg_sl av).length ≤ maxL)
    (body : ∀ (p : Program) (e : Env) (s : State) (m : MethodId) (below : List Frame) (meth : Method) (c : Code) (ls : Array Slot), st_At ws av y cc maxL ret p s m meth c → (∀ x ∈ c.exceptionTable.toList, False) → va_P (dC, dI) vwCl (va_pl L f) s.heap → va_K (dC, dI) vwCl (tyG g) s → va_D (va_A (va_pl L f) s.heap.size) (va_pl L f) → ev sa (va_A (va_pl L f) s.heap.size) s s.heap → va_S (va_A (va_pl L f) s.heap.size) s.heap s.heap [] → lv_has ls maxL (lv_args 0 av) →
      W p l e rm s m av.toArray below meth c s.heap [] 0 0 (vx_MQ below (Qz dC dI g L f (va_A (va_pl L f) s.heap.size) post nz) (XK dC dI g L f s.heap.size px) av.toArray s mc ms (va_A (va_pl L f) s.heap.size)) (F0 m 0 ls [])) :
    KY l dC dI sa g y ws rm av L f sz post nz px mc ms := by
  refine vx_ofW (cc := cc) (maxL := maxL) (ret := ret) hy hw ?_
  intro p e s m args below meth c s₁ B hml hno hv
  obtain ⟨rfl, hsz, hP, hK, hD0, hev⟩ := hv
  subst hsz
  rw [lg_entry_eq]
  exact body p e s m below meth c _ ⟨B.exec, B.bytes, B.returns, hml, atoms_spec (ws := ws) B.pre, findClass_of_methodNamed B.named, B.notSynchronized, (name_of_methodNamed B.named B.method).1⟩ hno hP hK (hD0.self) hev va_S.rf (lv_entry av hav)
theorem K_qZ (r : Option Value) (hP : va_P (dC, dI) vwCl (va_pl L' f') H) (hD : va_D (va_A (va_pl L f) s.heap.size) (va_pl L' f')) (hK : va_K (dC, dI) vwCl (tyG g) s) (hS : va_S (va_A (va_pl L f) s.heap.size) s.heap H locs) (hT : TP g L' f' rs) (hE : Ext L f L' f') (hpost : post r L' f') (hnz : nz cells f') (hG : Gr s.heap H cells) :
    ∀ t : State, t.heap = H → s.WarmedH t.vm → Qz dC dI g L f (va_A (va_pl L f) s.heap.size) post nz args s (.returned r) t := fun t ht hW =>
  ⟨⟨r, (L', f'), cells, rfl, ⟨hT.1, hE, hpost⟩, hnz, by rw [ht]; exact hG, by rw [ht]; exact hP, va_K.moved hW.alike (hK.sub [] rfl), hD⟩, hS.F ht⟩
theorem K_vZ (hx : p.tables.exec = Jvm.exec) (hb : c.code = cc) (hr : meth.sig.returnType = none) (hlocks : meth.locks = false) (hP : va_P (dC, dI) vwCl (va_pl L' f') H) (hD : va_D (va_A (va_pl L f) s.heap.size) (va_pl L' f')) (hK : va_K (dC, dI) vwCl (tyG g) s) (hS : va_S (va_A (va_pl L f) s.heap.size) s.heap H locs) (hT : TP g L' f' rs) (hE : Ext L f L' f') (hpost : post none L' f') (hnz : nz cells f') (h8 : slots ≤ 8 * cells) (hc : cells ≤ mc) (hs : slots ≤ ms) (hdg : decode cc pc = .ok (.return_, 1)) :
    W p l e R s m args below meth c H locs cells slots (MQ below (Qz dC dI g L f (va_A (va_pl L f) s.heap.size) post nz) args s mc ms (va_A (va_pl L f) s.heap.size)) (F0 m pc ls []) :=
  W_gr h8 fun hG => W.widen hc hs (W.vret hx hb hr (K_qZ _ hP hD hK hS hT hE hpost hnz hG) hS.2.2 hdg hlocks)
theorem K_aZ {v : Value} {rt : FieldType} (hx : p.tables.exec = Jvm.exec) (hb : c.code = cc) (hr : meth.sig.returnType = some rt) (hrt : (∃ n, rt = .object n) ∨ ∃ t, rt = .array t) (hv : v = .null ∨ ∃ a, v = .ref a) (hlocks : meth.locks = false) (hP : va_P (dC, dI) vwCl (va_pl L' f') H) (hD : va_D (va_A (va_pl L f) s.heap.size) (va_pl L' f')) (hK : va_K (dC, dI) vwCl (tyG g) s) (hS : va_S (va_A (va_pl L f) s.heap.size) s.heap H locs) (hT : TP g L' f' rs) (hE : Ext L f L' f') (hpost : post (some v) L' f') (hnz : nz cells f') (h8 : slots ≤ 8 * cells) (hc : cells ≤ mc) (hs : slots ≤ ms) (hdg : decode cc pc = .ok (.areturn, 1)) :
    W p l e R s m args below meth c H locs cells slots (MQ below (Qz dC dI g L f (va_A (va_pl L f) s.heap.size) post nz) args s mc ms (va_A (va_pl L f) s.heap.size)) (F0 m pc ls [v]) :=
  W_gr h8 fun hG => W.widen hc hs (W.aret hx hb hr hrt hv (K_qZ _ hP hD hK hS hT hE hpost hnz hG) hS.2.2 hdg hlocks)
end YY
