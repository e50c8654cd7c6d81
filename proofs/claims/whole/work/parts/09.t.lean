/-! contracts over the typed pool -/
noncomputable abbrev PL : Type := List Nat × (Nat → va_E)
noncomputable abbrev KPost : Type := Option Value → List Nat → (Nat → va_E) → Prop
noncomputable def kpost (g : Nat → Nat) (L : List Nat) (f : Nat → va_E) (post : KPost) : Option Value → PL → Prop := fun r u => WT g u.1 u.2 ∧ Ext L f u.1 u.2 ∧ post r u.1 u.2
/-- a method that returns, with the whole pool -/
noncomputable def KC (l : Launch) (dC : Nat → ClassId) (dI : Nat → Nat → Nat) (sa : Nat → Nat) (g : Nat → Nat) (y : MethodName) (ws : List Cond) (rm : Room) (av : List Value) (L : List Nat) (f : Nat → va_E) (sz : Nat) (post : KPost) (mc ms : Nat) : Prop :=
  CT l dC dI sa y ws rm av (va_pl L f) (tyG g) sz (kpost g L f post) (fun u : PL => va_pl u.1 u.2) (fun _ => []) mc ms
noncomputable def XK (dC : Nat → ClassId) (dI : Nat → Nat → Nat) (g : Nat → Nat) (L : List Nat) (f : Nat → va_E) (sz : Nat) (px : String → List Nat → (Nat → va_E) → Prop) : String → State → State → Prop := fun E st t => ∃ u : PL, (WT g u.1 u.2 ∧ Ext L f u.1 u.2 ∧ px E u.1 u.2) ∧ QW dC dI (va_A (va_pl L f) sz) (va_pl u.1 u.2) [] t ∧ va_F (va_A (va_pl L f) sz) st t
/-- a method that returns or throws -/
noncomputable def KX (l : Launch) (dC : Nat → ClassId) (dI : Nat → Nat → Nat) (sa : Nat → Nat) (g : Nat → Nat) (y : MethodName) (ws : List Cond) (rm : Room) (av : List Value) (L : List Nat) (f : Nat → va_E) (sz : Nat) (post : KPost) (px : String → List Nat → (Nat → va_E) → Prop) (mc ms : Nat) : Prop :=
  vx_Met l y ws rm (va_Pc av (PW dC dI sa (va_pl L f) (tyG g) sz)) (Qg (kpost g L f post) (fun (u : PL) t => QW dC dI (va_A (va_pl L f) sz) (va_pl u.1 u.2) [] t) (va_A (va_pl L f) sz)) (XK dC dI g L f sz px) mc ms (va_A (va_pl L f) sz)
section KK
variable {p : Program} {l : Launch} {e : Env} {R : Room} {s : State} {m : MethodId} {args : Array Value} {below : List Frame} {meth : Method} {c : Code} {H : Heap} {locs : List Loc} {cells slots : Nat} {Q : State → Prop}
variable {dC : Nat → ClassId} {dI : Nat → Nat → Nat} {sa : Nat → Nat} {A : Nat → Prop} {g : Nat → Nat} {L L' : List Nat} {f f' : Nat → va_E} {rs : List (Nat × shp)}
variable {y : MethodName} {bytes cc : ByteArray} {maxL nL mc ms n index : Nat} {ret : Option FieldType} {ws ws' : List Cond} {rm : Room} {Ts : List Cond} {own Cn : String} {b : Addr} {As rest st0 : List Value} {pc : Nat} {ls : Array Slot} {av : List Value} {sz : Nat}
variable {post : KPost} {px : String → List Nat → (Nat → va_E) → Prop}
theorem free_all {w : va_W} (hD : va_D A w) (hS : va_S A s.heap H locs) (hA : ∀ q, s.heap.size ≤ q → A q) : ∀ q, va_A w H.size q → A q := by
  intro q h
  rcases h with ⟨k, e, h⟩ | h
  · exact hD.2 k (q, e) h
  · exact hA q (Nat.le_trans hS.1 h)
theorem K_at {w : va_W} (hP : va_P (dC, dI) vwCl w H) (hD : va_D A w) (hK : va_K (dC, dI) vwCl (tyG g) s) (hS : va_S A s.heap H locs) (hA : ∀ q, s.heap.size ≤ q → A q) (hev : ev sa A s s.heap) : ∀ U : State, U.heap = H → s.WarmedH U.vm → PW dC dI sa w (tyG g) H.size U := by
  intro U hU hW
  have hFc := free_all hD hS hA
  refine ⟨by rw [hU], by rw [hU]; exact hP, va_K.moved hW.alike hK, hD.weaken (fun _ _ _ _ => trivial), ?_⟩
  rw [hU]
  exact ev.go hW hev (fun a h1 h2 => hS.2.1 a h1 h2) hFc
theorem K_run (hr : va_Run p l e R s m args below meth c H locs cells slots mc ms (F0 m pc ls st0) rest (Qg (kpost g L f post) (fun (u : PL) t => QW dC dI (va_A (va_pl L f) H.size) (va_pl u.1 u.2) [] t) (va_A (va_pl L f) H.size) av.toArray) (va_A (va_pl L f) H.size))
    (hD : va_D A (va_pl L f)) (hS : va_S A s.heap H locs) (hA : ∀ q, s.heap.size ≤ q → A q) (hT : TP g L f rs)
    (kk : ∀ (r : Option Value) (L' : List Nat) (f' : Nat → va_E) (H1 : Heap) (locs1 : List Loc), post r L' f' → va_P (dC, dI) vwCl (va_pl L' f') H1 → va_D A (va_pl L' f') → va_S A s.heap H1 locs1 → TP g L' f' rs → Ext L f L' f' → W p l e R s m args below meth c H1 locs1 (cells + mc) (slots + ms) Q (F0 m (pc + 3) ls (r.toList ++ rest))) :
    W p l e R s m args below meth c H locs cells slots Q (F0 m pc ls st0) := by
  intro T hT0 X
  have hFc := free_all hD hS hA
  obtain ⟨v, st₀, t, T', Lo, h0, X', hL, e1, e2, ⟨⟨r, ⟨L', f'⟩, hv, ⟨hW, hE, hp⟩, hb⟩, hF⟩, st⟩ := hr T hT0 X
  cases hv
  obtain ⟨k1, k2, k3⟩ := vx_keep h0 e1 hS (fun q _ h => hFc q h) hFc hL hF
  obtain ⟨hP1, hK1, hD1⟩ := hb
  rw [← e1] at hP1
  obtain ⟨t2, a1, b1⟩ := kk v L' f' T'.heap (locs ++ Lo) hp hP1 (hD1.weaken (fun _ q _ h => hFc q.1 h)) k3 (hT.go hE hW) hE T' rfl X'
  exact ⟨t2, st t2 a1, b1⟩
theorem K_runX (hr : vx_Run p l e R s m args below meth c H locs cells slots mc ms (F0 m pc ls st0) rest (Qg (kpost g L f post) (fun (u : PL) t => QW dC dI (va_A (va_pl L f) H.size) (va_pl u.1 u.2) [] t) (va_A (va_pl L f) H.size) av.toArray) (XK dC dI g L f H.size px) (va_A (va_pl L f) H.size))
    (hD : va_D A (va_pl L f)) (hS : va_S A s.heap H locs) (hA : ∀ q, s.heap.size ≤ q → A q) (hT : TP g L f rs)
    (kx : ∀ (E : String) (ce : Cell) (q9 : Addr) (L' : List Nat) (f' : Nat → va_E) (H1 : Heap) (locs1 : List Loc), px E L' f' → va_P (dC, dI) vwCl (va_pl L' f') H1 → va_D A (va_pl L' f') → va_S A s.heap H1 locs1 → TP g L' f' rs → Ext L f L' f' → H1[q9]? = some ce → ce.vm = .none → s.vm.findClass E = some ce.cls → vx_W p l e R s m args below meth c H1 locs1 (cells + mc) (slots + ms) Q (F0 m pc ls rest) q9)
    (kk : ∀ (r : Option Value) (L' : List Nat) (f' : Nat → va_E) (H1 : Heap) (locs1 : List Loc), post r L' f' → va_P (dC, dI) vwCl (va_pl L' f') H1 → va_D A (va_pl L' f') → va_S A s.heap H1 locs1 → TP g L' f' rs → Ext L f L' f' → W p l e R s m args below meth c H1 locs1 (cells + mc) (slots + ms) Q (F0 m (pc + 3) ls (r.toList ++ rest))) :
    W p l e R s m args below meth c H locs cells slots Q (F0 m pc ls st0) := by
  intro T hT0 X
  have hFc := free_all hD hS hA
  rcases hr T hT0 X with ⟨v, st₀, t, T', Lo, h0, X', hL, e1, e2, ⟨⟨r, ⟨L', f'⟩, hv, ⟨hW, hE, hp⟩, hb⟩, hF⟩, st⟩ | ⟨q, st₀, t, T', Lo, E, ce, h0, X', hL, e1, e2, ⟨⟨L', f'⟩, ⟨hW, hE, hp⟩, hb, hF⟩, hce, hcv, hcl, st⟩
  · cases hv
    obtain ⟨k1, k2, k3⟩ := vx_keep h0 e1 hS (fun q _ h => hFc q h) hFc hL hF
    obtain ⟨hP1, hK1, hD1⟩ := hb
    rw [← e1] at hP1
    obtain ⟨t2, a1, b1⟩ := kk v L' f' T'.heap (locs ++ Lo) hp hP1 (hD1.weaken (fun _ q _ h => hFc q.1 h)) k3 (hT.go hE hW) hE T' rfl X'
    exact ⟨t2, st t2 a1, b1⟩
  · obtain ⟨k1, k2, k3⟩ := vx_keep h0 e1 hS (fun q _ h => hFc q h) hFc hL hF
    obtain ⟨hP1, hK1, hD1⟩ := hb
    rw [← e1] at hP1
    obtain ⟨t2, a1, b1⟩ := kx E ce q L' f' T'.heap (locs ++ Lo) hp hP1 (hD1.weaken (fun _ q _ h => hFc q.1 h)) k3 (hT.go hE hW) hE (by rw [e1]; exact hce) hcv hcl T' rfl X'
    exact ⟨t2, st.trans a1, b1⟩
theorem K_recv (hK : va_K (dC, dI) vwCl (tyG g) s) (hP : va_P (dC, dI) vwCl (va_pl L f) H) (hT : TP g L f rs) (q0 : Nat) {ci : Nat} (hq : rs[q0]? = some (b, (0, ci, 0))) {qc : vw_C} (hci : vwCl[ci]? = some qc) : ∃ (j : Nat) (fs : List Value), (va_pl L f)[j]? = some (b, .inr (ci, fs)) := by
  obtain ⟨ha, hs⟩ := hT.at q0 hq
  obtain ⟨fs, hf⟩ := sh_obj hs
  obtain ⟨j, hj⟩ := pl_get (f := f) ha
  rw [hf] at hj
  exact ⟨j, fs, hj⟩
theorem K_V (C0 : CallFix p m c cc nL s args Ts own) (M : KC l dC dI sa g y ws rm (.ref b :: As) L f H.size post mc ms) (cw : CallW R s args own Cn index y bytes maxL ret ws rm mc ms n)
    (hP : va_P (dC, dI) vwCl (va_pl L f) H) (hD : va_D A (va_pl L f)) (hK : va_K (dC, dI) vwCl (tyG g) s) (hS : va_S A s.heap H locs) (hA : ∀ q, s.heap.size ≤ q → A q) (hev : ev sa A s s.heap) (hT : TP g L f rs)
    (q0 ci : Nat) (hq : rs[q0]? = some (b, (0, ci, 0))) {qc : vw_C} (hci : vwCl[ci]? = some qc) (hqc : qc.1 = Cn)
    (hn0 : As.length = n) (hsz : ls.size = nL) (hst : st0 = As.reverse ++ .ref b :: rest) (hW : (rest.map fun v => v.category).sum ≤ 8) (hdg : decode cc pc = .ok (.invokevirtual index, 3)) (hf : cells + mc ≤ R.cells ∧ slots + ms ≤ R.slots)
    (kk : ∀ (r : Option Value) (L' : List Nat) (f' : Nat → va_E) (H1 : Heap) (locs1 : List Loc), post r L' f' → va_P (dC, dI) vwCl (va_pl L' f') H1 → va_D A (va_pl L' f') → va_S A s.heap H1 locs1 → TP g L' f' rs → Ext L f L' f' → W p l e R s m args below meth c H1 locs1 (cells + mc) (slots + ms) Q (F0 m (pc + 3) ls (r.toList ++ rest))) :
    W p l e R s m args below meth c H locs cells slots Q (F0 m pc ls st0) := by
  subst hqc
  have hat := K_at hP hD hK hS hA hev
  obtain ⟨j, fs, he⟩ := K_recv hK hP hT q0 hq hci
  exact K_run (av := .ref b :: As) (va_runV C0 M cw ⟨PW.blind, va_recv hK hP hci he, fun U hU hW => ⟨rfl, hat U hU hW⟩⟩ rfl hn0 hsz hst (lv_room hW) hdg hf) hD hS hA hT kk
theorem K_VX (C0 : CallFix p m c cc nL s args Ts own) (M : KX l dC dI sa g y ws rm (.ref b :: As) L f H.size post px mc ms) (cw : CallW R s args own Cn index y bytes maxL ret ws rm mc ms n)
    (hP : va_P (dC, dI) vwCl (va_pl L f) H) (hD : va_D A (va_pl L f)) (hK : va_K (dC, dI) vwCl (tyG g) s) (hS : va_S A s.heap H locs) (hA : ∀ q, s.heap.size ≤ q → A q) (hev : ev sa A s s.heap) (hT : TP g L f rs)
    (q0 ci : Nat) (hq : rs[q0]? = some (b, (0, ci, 0))) {qc : vw_C} (hci : vwCl[ci]? = some qc) (hqc : qc.1 = Cn)
    (hn0 : As.length = n) (hsz : ls.size = nL) (hst : st0 = As.reverse ++ .ref b :: rest) (hW : (rest.map fun v => v.category).sum ≤ 8) (hdg : decode cc pc = .ok (.invokevirtual index, 3)) (hf : cells + mc ≤ R.cells ∧ slots + ms ≤ R.slots)
    (kx : ∀ (E : String) (ce : Cell) (q9 : Addr) (L' : List Nat) (f' : Nat → va_E) (H1 : Heap) (locs1 : List Loc), px E L' f' → va_P (dC, dI) vwCl (va_pl L' f') H1 → va_D A (va_pl L' f') → va_S A s.heap H1 locs1 → TP g L' f' rs → Ext L f L' f' → H1[q9]? = some ce → ce.vm = .none → s.vm.findClass E = some ce.cls → vx_W p l e R s m args below meth c H1 locs1 (cells + mc) (slots + ms) Q (F0 m pc ls rest) q9)
    (kk : ∀ (r : Option Value) (L' : List Nat) (f' : Nat → va_E) (H1 : Heap) (locs1 : List Loc), post r L' f' → va_P (dC, dI) vwCl (va_pl L' f') H1 → va_D A (va_pl L' f') → va_S A s.heap H1 locs1 → TP g L' f' rs → Ext L f L' f' → W p l e R s m args below meth c H1 locs1 (cells + mc) (slots + ms) Q (F0 m (pc + 3) ls (r.toList ++ rest))) :
    W p l e R s m args below meth c H locs cells slots Q (F0 m pc ls st0) := by
  subst hqc
  have hat := K_at hP hD hK hS hA hev
  obtain ⟨j, fs, he⟩ := K_recv hK hP hT q0 hq hci
  exact K_runX (av := .ref b :: As) (vx_runV C0 M cw ⟨PW.blind, va_recv hK hP hci he, fun U hU hW => ⟨rfl, hat U hU hW⟩⟩ rfl hn0 hsz hst (lv_room hW) hdg hf) hD hS hA hT kx kk
theorem K_I (C0 : CallFix p m c cc nL s args Ts own) (M : KC l dC dI sa g y ws rm (.ref b :: As) L f H.size post mc ms) (cw : CallB R s args own index y bytes maxL none ws rm mc ms n ∧ y.name = "<init>" ∧ (Cond.instanceMethod y).before args s = true)
    (hP : va_P (dC, dI) vwCl (va_pl L f) H) (hD : va_D A (va_pl L f)) (hK : va_K (dC, dI) vwCl (tyG g) s) (hS : va_S A s.heap H locs) (hA : ∀ q, s.heap.size ≤ q → A q) (hev : ev sa A s s.heap) (hT : TP g L f rs)
    (hn0 : As.length = n) (hsz : ls.size = nL) (hst : st0 = As.reverse ++ .ref b :: rest) (hW : (rest.map fun v => v.category).sum ≤ 8) (hdg : decode cc pc = .ok (.invokespecial index, 3)) (hf : cells + mc ≤ R.cells ∧ slots + ms ≤ R.slots)
    (kk : ∀ (r : Option Value) (L' : List Nat) (f' : Nat → va_E) (H1 : Heap) (locs1 : List Loc), post r L' f' → va_P (dC, dI) vwCl (va_pl L' f') H1 → va_D A (va_pl L' f') → va_S A s.heap H1 locs1 → TP g L' f' rs → Ext L f L' f' → W p l e R s m args below meth c H1 locs1 (cells + mc) (slots + ms) Q (F0 m (pc + 3) ls (r.toList ++ rest))) :
    W p l e R s m args below meth c H locs cells slots Q (F0 m pc ls st0) := by
  have hat := K_at hP hD hK hS hA hev
  exact K_run (av := .ref b :: As) (va_runI C0 M cw ⟨PW.blind, fun U hU hW => ⟨rfl, hat U hU hW⟩⟩ rfl hn0 hsz hst (lv_room hW) hdg hf) hD hS hA hT kk
theorem K_SX (C0 : CallFix p m c cc nL s args Ts own) (M : KX l dC dI sa g y ws rm As L f H.size post px mc ms) (cw : CallB R s args own index y bytes maxL ret ws rm mc ms n ∧ (Cond.static y).before args s = true)
    (hP : va_P (dC, dI) vwCl (va_pl L f) H) (hD : va_D A (va_pl L f)) (hK : va_K (dC, dI) vwCl (tyG g) s) (hS : va_S A s.heap H locs) (hA : ∀ q, s.heap.size ≤ q → A q) (hev : ev sa A s s.heap) (hT : TP g L f rs)
    (hn0 : As.length = n) (hsz : ls.size = nL) (hst : st0 = As.reverse ++ rest) (hW : (rest.map fun v => v.category).sum ≤ 8) (hdg : decode cc pc = .ok (.invokestatic index, 3)) (hf : cells + mc ≤ R.cells ∧ slots + ms ≤ R.slots)
    (kx : ∀ (E : String) (ce : Cell) (q9 : Addr) (L' : List Nat) (f' : Nat → va_E) (H1 : Heap) (locs1 : List Loc), px E L' f' → va_P (dC, dI) vwCl (va_pl L' f') H1 → va_D A (va_pl L' f') → va_S A s.heap H1 locs1 → TP g L' f' rs → Ext L f L' f' → H1[q9]? = some ce → ce.vm = .none → s.vm.findClass E = some ce.cls → vx_W p l e R s m args below meth c H1 locs1 (cells + mc) (slots + ms) Q (F0 m pc ls rest) q9)
    (kk : ∀ (r : Option Value) (L' : List Nat) (f' : Nat → va_E) (H1 : Heap) (locs1 : List Loc), post r L' f' → va_P (dC, dI) vwCl (va_pl L' f') H1 → va_D A (va_pl L' f') → va_S A s.heap H1 locs1 → TP g L' f' rs → Ext L f L' f' → W p l e R s m args below meth c H1 locs1 (cells + mc) (slots + ms) Q (F0 m (pc + 3) ls (r.toList ++ rest))) :
    W p l e R s m args below meth c H locs cells slots Q (F0 m pc ls st0) := by
  have hat := K_at hP hD hK hS hA hev
  exact K_runX (av := As) (vx_runS C0 M cw ⟨PW.blind, fun U hU hW => ⟨rfl, hat U hU hW⟩⟩ rfl hn0 hsz hst (lv_room hW) hdg hf) hD hS hA hT kx kk
/-- a throw that this method, which has no table, doesn't catch -/
theorem K_out {E : String} {ce : Cell} {q : Addr} {Qc : Array Value → State → Outcome → State → Prop} (hno : ∀ x ∈ c.exceptionTable.toList, False) (hlocks : meth.locks = false) (hpx : px E L' f')
    (hP : va_P (dC, dI) vwCl (va_pl L' f') H) (hD : va_D (va_A (va_pl L f) s.heap.size) (va_pl L' f')) (hK : va_K (dC, dI) vwCl (tyG g) s) (hS : va_S (va_A (va_pl L f) s.heap.size) s.heap H locs) (hT : TP g L' f' rs) (hE : Ext L f L' f') (hcell : H[q]? = some ce) (hv : ce.vm = .none) (hcl : s.vm.findClass E = some ce.cls) (hc : cells ≤ mc) (hs : slots ≤ ms) :
    vx_W p l e R s m args below meth c H locs cells slots (vx_MQ below Qc (XK dC dI g L f s.heap.size px) args s mc ms (va_A (va_pl L f) s.heap.size)) (F0 m pc ls rest) q :=
  vx_out (fun x hx => (hno x hx).elim) hlocks hcell hv hcl (fun t ht hal => ⟨(L', f'), ⟨hT.1, hE, hpx⟩, ⟨by rw [ht]; exact hP, va_K.moved hal (hK.sub [] rfl), hD⟩, hS.F ht⟩) hS.2.2 hc hs
/-- a body's start -/
theorem KX.start (hy : plainName y.cls = true) (hw : ws = Cond.code y cc maxL ret :: ws') (hav : (lg_sl av).length ≤ maxL)
    (body : ∀ (p : Program) (e : Env) (s : State) (m : MethodId) (below : List Frame) (meth : Method) (c : Code) (ls : Array Slot), st_At ws av y cc maxL ret p s m meth c → (∀ x ∈ c.exceptionTable.toList, False) → va_P (dC, dI) vwCl (va_pl L f) s.heap → va_K (dC, dI) vwCl (tyG g) s → va_D (va_A (va_pl L f) s.heap.size) (va_pl L f) → ev sa (va_A (va_pl L f) s.heap.size) s s.heap → va_S (va_A (va_pl L f) s.heap.size) s.heap s.heap [] → lv_has ls maxL (lv_args 0 av) →
      W p l e rm s m av.toArray below meth c s.heap [] 0 0 (vx_MQ below (Qg (kpost g L f post) (fun (u : PL) t => QW dC dI (va_A (va_pl L f) s.heap.size) (va_pl u.1 u.2) [] t) (va_A (va_pl L f) s.heap.size)) (XK dC dI g L f s.heap.size px) av.toArray s mc ms (va_A (va_pl L f) s.heap.size)) (F0 m 0 ls [])) :
    KX l dC dI sa g y ws rm av L f sz post px mc ms := by
  refine vx_ofW (cc := cc) (maxL := maxL) (ret := ret) hy hw ?_
  intro p e s m args below meth c s₁ B hml hno hv
  obtain ⟨rfl, hsz, hP, hK, hD0, hev⟩ := hv
  subst hsz
  rw [lg_entry_eq]
  exact body p e s m below meth c _ ⟨B.exec, B.bytes, B.returns, hml, atoms_spec (ws := ws) B.pre, findClass_of_methodNamed B.named, B.notSynchronized, (name_of_methodNamed B.named B.method).1⟩ hno hP hK (hD0.self) hev va_S.rf (lv_entry av hav)
/-- an end -/
theorem K_q (r : Option Value) (hP : va_P (dC, dI) vwCl (va_pl L' f') H) (hD : va_D (va_A (va_pl L f) s.heap.size) (va_pl L' f')) (hK : va_K (dC, dI) vwCl (tyG g) s) (hS : va_S (va_A (va_pl L f) s.heap.size) s.heap H locs) (hT : TP g L' f' rs) (hE : Ext L f L' f') (hpost : post r L' f') :
    ∀ t : State, t.heap = H → s.WarmedH t.vm → Qg (kpost g L f post) (fun (u : PL) t => QW dC dI (va_A (va_pl L f) s.heap.size) (va_pl u.1 u.2) [] t) (va_A (va_pl L f) s.heap.size) args s (.returned r) t := fun t ht hW =>
  ⟨⟨r, (L', f'), rfl, ⟨hT.1, hE, hpost⟩, by rw [ht]; exact hP, va_K.moved hW.alike (hK.sub [] rfl), hD⟩, hS.F ht⟩
theorem K_i {v : Int32} (hx : p.tables.exec = Jvm.exec) (hb : c.code = cc) (hr : meth.sig.returnType = some .int) (hlocks : meth.locks = false) (hP : va_P (dC, dI) vwCl (va_pl L' f') H) (hD : va_D (va_A (va_pl L f) s.heap.size) (va_pl L' f')) (hK : va_K (dC, dI) vwCl (tyG g) s) (hS : va_S (va_A (va_pl L f) s.heap.size) s.heap H locs) (hT : TP g L' f' rs) (hE : Ext L f L' f') (hpost : post (some (.int v)) L' f') (hc : cells ≤ mc) (hs : slots ≤ ms) (hdg : decode cc pc = .ok (.ireturn, 1)) :
    W p l e R s m args below meth c H locs cells slots (MQ below (Qg (kpost g L f post) (fun (u : PL) t => QW dC dI (va_A (va_pl L f) s.heap.size) (va_pl u.1 u.2) [] t) (va_A (va_pl L f) s.heap.size)) args s mc ms (va_A (va_pl L f) s.heap.size)) (F0 m pc ls [.int v]) :=
  W.widen hc hs (W.iret hx hb hr (K_q _ hP hD hK hS hT hE hpost) hS.2.2 hdg hlocks)
theorem K_z {v : Int32} {ty : FieldType} (hx : p.tables.exec = Jvm.exec) (hb : c.code = cc) (hr : meth.sig.returnType = some ty) (hnar : narrow ty (.int v) = .int v) (hlocks : meth.locks = false) (hP : va_P (dC, dI) vwCl (va_pl L' f') H) (hD : va_D (va_A (va_pl L f) s.heap.size) (va_pl L' f')) (hK : va_K (dC, dI) vwCl (tyG g) s) (hS : va_S (va_A (va_pl L f) s.heap.size) s.heap H locs) (hT : TP g L' f' rs) (hE : Ext L f L' f') (hpost : post (some (.int v)) L' f') (hc : cells ≤ mc) (hs : slots ≤ ms) (hdg : decode cc pc = .ok (.ireturn, 1)) :
    W p l e R s m args below meth c H locs cells slots (MQ below (Qg (kpost g L f post) (fun (u : PL) t => QW dC dI (va_A (va_pl L f) s.heap.size) (va_pl u.1 u.2) [] t) (va_A (va_pl L f) s.heap.size)) args s mc ms (va_A (va_pl L f) s.heap.size)) (F0 m pc ls [.int v]) :=
  W.widen hc hs (W.zret hx hb hr hnar (K_q _ hP hD hK hS hT hE hpost) hS.2.2 hdg hlocks)
theorem K_v (hx : p.tables.exec = Jvm.exec) (hb : c.code = cc) (hr : meth.sig.returnType = none) (hlocks : meth.locks = false) (hP : va_P (dC, dI) vwCl (va_pl L' f') H) (hD : va_D (va_A (va_pl L f) s.heap.size) (va_pl L' f')) (hK : va_K (dC, dI) vwCl (tyG g) s) (hS : va_S (va_A (va_pl L f) s.heap.size) s.heap H locs) (hT : TP g L' f' rs) (hE : Ext L f L' f') (hpost : post none L' f') (hc : cells ≤ mc) (hs : slots ≤ ms) (hdg : decode cc pc = .ok (.return_, 1)) :
    W p l e R s m args below meth c H locs cells slots (MQ below (Qg (kpost g L f post) (fun (u : PL) t => QW dC dI (va_A (va_pl L f) s.heap.size) (va_pl u.1 u.2) [] t) (va_A (va_pl L f) s.heap.size)) args s mc ms (va_A (va_pl L f) s.heap.size)) (F0 m pc ls []) :=
  W.widen hc hs (W.vret hx hb hr (K_q _ hP hD hK hS hT hE hpost) hS.2.2 hdg hlocks)
theorem K_a {v : Value} {rt : FieldType} (hx : p.tables.exec = Jvm.exec) (hb : c.code = cc) (hr : meth.sig.returnType = some rt) (hrt : (∃ n, rt = .object n) ∨ ∃ t, rt = .array t) (hv : v = .null ∨ ∃ a, v = .ref a) (hlocks : meth.locks = false) (hP : va_P (dC, dI) vwCl (va_pl L' f') H) (hD : va_D (va_A (va_pl L f) s.heap.size) (va_pl L' f')) (hK : va_K (dC, dI) vwCl (tyG g) s) (hS : va_S (va_A (va_pl L f) s.heap.size) s.heap H locs) (hT : TP g L' f' rs) (hE : Ext L f L' f') (hpost : post (some v) L' f') (hc : cells ≤ mc) (hs : slots ≤ ms) (hdg : decode cc pc = .ok (.areturn, 1)) :
    W p l e R s m args below meth c H locs cells slots (MQ below (Qg (kpost g L f post) (fun (u : PL) t => QW dC dI (va_A (va_pl L f) s.heap.size) (va_pl u.1 u.2) [] t) (va_A (va_pl L f) s.heap.size)) args s mc ms (va_A (va_pl L f) s.heap.size)) (F0 m pc ls [v]) :=
  W.widen hc hs (W.aret hx hb hr hrt hv (K_q _ hP hD hK hS hT hE hpost) hS.2.2 hdg hlocks)
/-- throw new E("..") -/
theorem K_x {own cls text : String} {ik is ic idx sa0 : Nat} {b1 : ByteArray} {Ts : List Cond} {rest : List Value} {Qc : Array Value → State → Outcome → State → Prop} (hno : ∀ x ∈ c.exceptionTable.toList, False) (hx : p.tables.exec = Jvm.exec) (hb : c.code = cc) (hl : l.stackTraces = false) (hlocks : meth.locks = false) (hown : s.vm.findClass own = some m.cls) (hts : ∀ w ∈ Ts, w.before args s = true)
    (g0 : decode b1 0 = .ok (.aload_n 0, 1)) (g1 : decode b1 1 = .ok (.aload_n 1, 1)) (g2 : decode b1 2 = .ok (.invokespecial idx, 3)) (g5 : decode b1 5 = .ok (.return_, 1))
    (hfit : Bundle.fit cls = true) (hk : (Cond.classLink own ik cls).before args s = true) (hini : (Cond.initialized cls).before args s = true) (hstr : vk_R own is text sa0 s)
    (h1 : ∀ w ∈ (xi_at own ic cls idx b1 "java/lang/RuntimeException" ["java/lang/Exception"]).filter goodWord, w ∈ Ts) (h2 : ∀ w ∈ (xi_at own ic cls idx b1 "java/lang/RuntimeException" ["java/lang/Exception"]).filter (fun w => !goodWord w), w ∈ xB cls) (hcast : va_Nw (.castable cls cls) s)
    (hgood : ∀ w ∈ Cond.classLink own ik cls :: Cond.initialized cls :: xi_at own ic cls idx b1 "java/lang/RuntimeException" ["java/lang/Exception"], vx_ot w = true) (hev : ev sa (va_A (va_pl L f) s.heap.size) s s.heap) (hsize : ls.size = c.maxLocals)
    (d0 : decode cc pc = .ok (.new ik, 3)) (d3 : decode cc (pc + 3) = .ok (.dup, 1)) (d4 : decode cc (pc + 4) = .ok (.ldc is, 2)) (d6 : decode cc (pc + 6) = .ok (.invokespecial ic, 3)) (d9 : decode cc (pc + 9) = .ok (.athrow, 1))
    (hRf : 5 < R.frames) (hRl : (rest.map fun v => v.category).sum + 82 ≤ R.locals) (hRc : cells + 1 ≤ R.cells) (hRs : slots + 6 ≤ R.slots) (hpx : px cls L' f')
    (hP : va_P (dC, dI) vwCl (va_pl L' f') H) (hD : va_D (va_A (va_pl L f) s.heap.size) (va_pl L' f')) (hK : va_K (dC, dI) vwCl (tyG g) s) (hS : va_S (va_A (va_pl L f) s.heap.size) s.heap H locs) (hT : TP g L' f' rs) (hE : Ext L f L' f') (hc : cells + 1 ≤ mc) (hs : slots + 6 ≤ ms) :
    W p l e R s m args below meth c H locs cells slots (vx_MQ below Qc (XK dC dI g L f s.heap.size px) args s mc ms (va_A (va_pl L f) s.heap.size)) (F0 m pc ls rest) := by
  have hdc := hev.2.2.2.1
  refine xi_throw (sup := "java/lang/RuntimeException") (names := ["java/lang/Exception"]) (A := va_A (va_pl L f) s.heap.size) hx hb hl g0 g1 g2 g5 hown hfit (by decide +kernel) (by decide +kernel) hk hini hstr (vx_hat (fun w hw => hts w (h1 w hw)) h2 (vx_c (hcast.use rfl) (vx_c (hdc.1.use rfl) (vx_c (hdc.2.1.use rfl) (vx_c (hdc.2.2.use rfl) vx_n))))) hgood hev.1.1 hev.1.2 hS hsize d0 d3 d4 d6 d9 (fun x h => (hno x h).elim) hRf hRl hRc hRs hlocks ?_ hS.2.2 hc hs
  intro t hal hz hk
  exact ⟨(L', f'), ⟨hT.1, hE, hpx⟩, ⟨hP.kept (fun k q hq => hk q.1 (hP k q hq).lt), va_K.moved hal (hK.sub [] rfl), hD⟩, Nat.le_trans hS.1 hz, fun q h1 h2 => (hk q (Nat.lt_of_lt_of_le h1 hS.1)).trans (hS.2.1 q h1 h2)⟩
end KK
theorem okn_0 (g : Nat → Nat) (L' : List Nat) (f' : Nat → va_E) : oke g L' f' (.inr (0, [.int 0, .int 0, .int 0, .int 0, .int 0, .int 0, .int 0, .int 0])) := by
  refine ⟨rfl, fun k t v h1 h2 => ?_⟩
  match k, h1, h2 with
  | 0, h1, h2 | 1, h1, h2 | 2, h1, h2 | 3, h1, h2 | 4, h1, h2 | 5, h1, h2 | 6, h1, h2 | 7, h1, h2 => cases h1; cases h2; exact ⟨_, rfl⟩
  | n + 8, h1, h2 => cases h1
