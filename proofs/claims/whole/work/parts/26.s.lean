/-! worlds side by side -/
section SBS
variable {D : va_G} {cl : List vw_C} {A : Nat → Prop} {u r u' r' : va_W} {H H1 : Heap}
theorem app_lP (h : va_P D cl (u ++ r) H) : va_P D cl u H := fun k q hk => h k q (by rw [List.getElem?_append_left (List.getElem?_eq_some_iff.mp hk).1]; exact hk)
theorem app_rP (h : va_P D cl (u ++ r) H) : va_P D cl r H := fun k q hk => h (u.length + k) q (by rw [List.getElem?_append_right (by omega), Nat.add_sub_cancel_left]; exact hk)
theorem app_lD (h : va_D A (u ++ r)) : va_D A u := by
  have g : ∀ (k : Nat) (q : Nat × va_E), u[k]? = some q → (u ++ r)[k]? = some q := fun k q hk => by rw [List.getElem?_append_left (List.getElem?_eq_some_iff.mp hk).1]; exact hk
  exact ⟨fun i j p q h1 h2 => h.1 i j p q (g i p h1) (g j q h2), fun k q hk => h.2 k q (g k q hk)⟩
theorem app_rD (h : va_D A (u ++ r)) : va_D A r := by
  have g : ∀ (k : Nat) (q : Nat × va_E), r[k]? = some q → (u ++ r)[u.length + k]? = some q := fun k q hk => by rw [List.getElem?_append_right (by omega), Nat.add_sub_cancel_left]; exact hk
  exact ⟨fun i j p q h1 h2 e => by have := h.1 _ _ p q (g i p h1) (g j q h2) e; omega, fun k q hk => h.2 _ q (g k q hk)⟩
theorem app_ap (h : va_D A (u ++ r)) {i j : Nat} {p q : Nat × va_E} (h1 : u[i]? = some p) (h2 : r[j]? = some q) : p.1 ≠ q.1 := fun e => by
  have hi : i < u.length := (List.getElem?_eq_some_iff.mp h1).1
  have := h.1 i (u.length + j) p q (by rw [List.getElem?_append_left hi]; exact h1) (by rw [List.getElem?_append_right (by omega), Nat.add_sub_cancel_left]; exact h2) e
  omega
/-- a call upon the left part -/
theorem cj_u (hP : va_P D cl (u ++ r) H) (hD : va_D A (u ++ r)) (hk : ∀ q : Nat, q < H.size → ¬ va_A u H.size q → H1[q]? = H[q]?) (hF : ∀ q, va_A u H.size q → A q) (hP1 : va_P D cl u' H1) (hD1 : va_D (va_A u H.size) u') : va_P D cl (u' ++ r) H1 ∧ va_D A (u' ++ r) := by
  have hPr := app_rP hP
  have out : ∀ (k : Nat) (q : Nat × va_E), r[k]? = some q → q.1 < H.size ∧ ¬ va_A u H.size q.1 := fun k q hq => by
    have hlt := (hPr k q hq).lt
    refine ⟨hlt, ?_⟩
    rintro (⟨i, e, h⟩ | h)
    · exact app_ap hD h hq rfl
    · omega
  refine ⟨va_P.app hP1 (hPr.kept fun k q hq => hk _ (out k q hq).1 (out k q hq).2), va_D.app (hD1.weaken (fun _ q _ h => hF q.1 h)) (app_rD hD) fun i j p q h1 h2 e => ?_⟩
  exact (out j q h2).2 (e ▸ hD1.2 i p h1)
/-- a call upon the right part -/
theorem cj_v (hP : va_P D cl (u ++ r) H) (hD : va_D A (u ++ r)) (hk : ∀ q : Nat, q < H.size → ¬ va_A r H.size q → H1[q]? = H[q]?) (hF : ∀ q, va_A r H.size q → A q) (hP1 : va_P D cl r' H1) (hD1 : va_D (va_A r H.size) r') : va_P D cl (u ++ r') H1 ∧ va_D A (u ++ r') := by
  have hPu := app_lP hP
  have out : ∀ (k : Nat) (q : Nat × va_E), u[k]? = some q → q.1 < H.size ∧ ¬ va_A r H.size q.1 := fun k q hq => by
    have hlt := (hPu k q hq).lt
    refine ⟨hlt, ?_⟩
    rintro (⟨i, e, h⟩ | h)
    · exact app_ap hD hq h rfl
    · omega
  refine ⟨va_P.app (hPu.kept fun k q hq => hk _ (out k q hq).1 (out k q hq).2) hP1, va_D.app (app_lD hD) (hD1.weaken (fun _ q _ h => hF q.1 h)) fun i j p q h1 h2 e => ?_⟩
  exact (out i p h1).2 (e ▸ hD1.2 j q h2)
end SBS
section SBN
variable {p : Program} {l : Launch} {e : Env} {R : Room} {s : State} {m : MethodId} {args : Array Value} {below : List Frame} {meth : Method} {c : Code} {H : Heap} {locs : List Loc} {cells slots : Nat} {Q : State → Prop}
variable {dC : Nat → ClassId} {dI : Nat → Nat → Nat} {sa : Nat → Nat} {A : Nat → Prop} {w rw : va_W} {tys : List (ClassId × FieldType)} {S : Type} {post : Option Value → S → Prop} {wB : S → va_W}
variable {y : MethodName} {bytes cc : ByteArray} {maxL nL mc ms n index : Nat} {ret : Option FieldType} {ws : List Cond} {rm : Room} {Ts : List Cond} {own Cn : String} {b : Addr} {As rest st0 : List Value} {pc : Nat} {ls : Array Slot} {av : List Value}
variable {g : Nat → Nat} {L : List Nat} {f : Nat → va_E} {rs : List (Nat × shp)} {kp : KPost} {px : String → List Nat → (Nat → va_E) → Prop}
theorem N_run (hr : va_Run p l e R s m args below meth c H locs cells slots mc ms (F0 m pc ls st0) rest (Qg post (fun u t => QW dC dI (va_A w H.size) (wB u) [] t) (va_A w H.size) av.toArray) (va_A w H.size))
    (hD : va_D A w) (hS : va_S A s.heap H locs) (hA : ∀ q, s.heap.size ≤ q → A q)
    (kk : ∀ (r : Option Value) (u : S) (H1 : Heap) (locs1 : List Loc), post r u → va_P (dC, dI) vwCl (wB u) H1 → va_D (va_A w H.size) (wB u) → (∀ q : Nat, q < H.size → ¬ va_A w H.size q → H1[q]? = H[q]?) → va_S A s.heap H1 locs1 → W p l e R s m args below meth c H1 locs1 (cells + mc) (slots + ms) Q (F0 m (pc + 3) ls (r.toList ++ rest))) :
    W p l e R s m args below meth c H locs cells slots Q (F0 m pc ls st0) := by
  intro T hT0 X
  have hFc := free_all hD hS hA
  obtain ⟨v, st₀, t, T', Lo, h0, X', hL, e1, e2, ⟨⟨r, u, hv, hp, hb⟩, hF⟩, st⟩ := hr T hT0 X
  cases hv
  obtain ⟨k1, k2, k3⟩ := vx_keep h0 e1 hS (fun q _ h => hFc q h) hFc hL hF
  obtain ⟨hP1, hK1, hD1⟩ := hb
  rw [← e1] at hP1
  obtain ⟨t2, a1, b1⟩ := kk v u T'.heap (locs ++ Lo) hp hP1 hD1 (fun q h1 h2 => by rw [e1, ← h0]; exact hF.2 q (by rw [h0]; exact h1) h2) k3 T' rfl X'
  exact ⟨t2, st t2 a1, b1⟩
theorem N_runX (hr : vx_Run p l e R s m args below meth c H locs cells slots mc ms (F0 m pc ls st0) rest (Qg (kpost g L f kp) (fun (u : PL) t => QW dC dI (va_A (va_pl L f) H.size) (va_pl u.1 u.2) [] t) (va_A (va_pl L f) H.size) av.toArray) (XK dC dI g L f H.size px) (va_A (va_pl L f) H.size))
    (hD : va_D A (va_pl L f)) (hS : va_S A s.heap H locs) (hA : ∀ q, s.heap.size ≤ q → A q)
    (kx : ∀ (E : String) (ce : Cell) (q9 : Addr) (L' : List Nat) (f' : Nat → va_E) (H1 : Heap) (locs1 : List Loc), px E L' f' → WT g L' f' → Ext L f L' f' → va_P (dC, dI) vwCl (va_pl L' f') H1 → va_D (va_A (va_pl L f) H.size) (va_pl L' f') → (∀ q : Nat, q < H.size → ¬ va_A (va_pl L f) H.size q → H1[q]? = H[q]?) → va_S A s.heap H1 locs1 → H1[q9]? = some ce → ce.vm = .none → s.vm.findClass E = some ce.cls → vx_W p l e R s m args below meth c H1 locs1 (cells + mc) (slots + ms) Q (F0 m pc ls rest) q9)
    (kk : ∀ (r : Option Value) (L' : List Nat) (f' : Nat → va_E) (H1 : Heap) (locs1 : List Loc), kp r L' f' → WT g L' f' → Ext L f L' f' → va_P (dC, dI) vwCl (va_pl L' f') H1 → va_D (va_A (va_pl L f) H.size) (va_pl L' f') → (∀ q : Nat, q < H.size → ¬ va_A (va_pl L f) H.size q → H1[q]? = H[q]?) → va_S A s.heap H1 locs1 → W p l e R s m args below meth c H1 locs1 (cells + mc) (slots + ms) Q (F0 m (pc + 3) ls (r.toList ++ rest))) :
    W p l e R s m args below meth c H locs cells slots Q (F0 m pc ls st0) := by
  intro T hT0 X
  have hFc := free_all hD hS hA
  rcases hr T hT0 X with ⟨v, st₀, t, T', Lo, h0, X', hL, e1, e2, ⟨⟨r, ⟨L', f'⟩, hv, ⟨hW, hE, hp⟩, hb⟩, hF⟩, st⟩ | ⟨q, st₀, t, T', Lo, E, ce, h0, X', hL, e1, e2, ⟨⟨L', f'⟩, ⟨hW, hE, hp⟩, hb, hF⟩, hce, hcv, hcl, st⟩
  · cases hv
    obtain ⟨k1, k2, k3⟩ := vx_keep h0 e1 hS (fun q _ h => hFc q h) hFc hL hF
    obtain ⟨hP1, hK1, hD1⟩ := hb
    rw [← e1] at hP1
    obtain ⟨t2, a1, b1⟩ := kk v L' f' T'.heap (locs ++ Lo) hp hW hE hP1 hD1 (fun q h1 h2 => by rw [e1, ← h0]; exact hF.2 q (by rw [h0]; exact h1) h2) k3 T' rfl X'
    exact ⟨t2, st t2 a1, b1⟩
  · obtain ⟨k1, k2, k3⟩ := vx_keep h0 e1 hS (fun q _ h => hFc q h) hFc hL hF
    obtain ⟨hP1, hK1, hD1⟩ := hb
    rw [← e1] at hP1
    obtain ⟨t2, a1, b1⟩ := kx E ce q L' f' T'.heap (locs ++ Lo) hp hW hE hP1 hD1 (fun q h1 h2 => by rw [e1, ← h0]; exact hF.2 q (by rw [h0]; exact h1) h2) k3 (by rw [e1]; exact hce) hcv hcl T' rfl X'
    exact ⟨t2, st.trans a1, b1⟩
/-- the house's method that may throw, out of a world that begins with its pool -/
theorem NU_VX (C0 : CallFix p m c cc nL s args Ts own) (M : KX l dC dI sa g y ws rm (.ref b :: As) L f H.size kp px mc ms) (cw : CallW R s args own Cn index y bytes maxL ret ws rm mc ms n)
    (hP : va_P (dC, dI) vwCl (va_pl L f ++ rw) H) (hD : va_D A (va_pl L f ++ rw)) (hK : va_K (dC, dI) vwCl (tyG g) s) (hS : va_S A s.heap H locs) (hA : ∀ q, s.heap.size ≤ q → A q) (hev : ev sa A s s.heap) (hT : TP g L f rs)
    (q0 ci : Nat) (hq : rs[q0]? = some (b, (0, ci, 0))) {qc : vw_C} (hci : vwCl[ci]? = some qc) (hqc : qc.1 = Cn)
    (hn0 : As.length = n) (hsz : ls.size = nL) (hst : st0 = As.reverse ++ .ref b :: rest) (hW : (rest.map fun v => v.category).sum ≤ 8) (hdg : decode cc pc = .ok (.invokevirtual index, 3)) (hf : cells + mc ≤ R.cells ∧ slots + ms ≤ R.slots)
    (kx : ∀ (E : String) (ce : Cell) (q9 : Addr) (L' : List Nat) (f' : Nat → va_E) (H1 : Heap) (locs1 : List Loc), px E L' f' → TP g L' f' rs → Ext L f L' f' → va_P (dC, dI) vwCl (va_pl L' f' ++ rw) H1 → va_D A (va_pl L' f' ++ rw) → va_S A s.heap H1 locs1 → H1[q9]? = some ce → ce.vm = .none → s.vm.findClass E = some ce.cls → vx_W p l e R s m args below meth c H1 locs1 (cells + mc) (slots + ms) Q (F0 m pc ls rest) q9)
    (kk : ∀ (r : Option Value) (L' : List Nat) (f' : Nat → va_E) (H1 : Heap) (locs1 : List Loc), kp r L' f' → TP g L' f' rs → Ext L f L' f' → va_P (dC, dI) vwCl (va_pl L' f' ++ rw) H1 → va_D A (va_pl L' f' ++ rw) → va_S A s.heap H1 locs1 → W p l e R s m args below meth c H1 locs1 (cells + mc) (slots + ms) Q (F0 m (pc + 3) ls (r.toList ++ rest))) :
    W p l e R s m args below meth c H locs cells slots Q (F0 m pc ls st0) := by
  subst hqc
  have hPu := app_lP hP
  have hDu := app_lD hD
  have hat := K_at hPu hDu hK hS hA hev
  have hFc := free_all hDu hS hA
  obtain ⟨j, fs, he⟩ := K_recv hK hPu hT q0 hq hci
  refine N_runX (av := .ref b :: As) (vx_runV C0 M cw ⟨PW.blind, va_recv hK hPu hci he, fun U hU hW => ⟨rfl, hat U hU hW⟩⟩ rfl hn0 hsz hst (lv_room hW) hdg hf) hDu hS hA ?_ ?_
  · intro E ce q9 L' f' H1 locs1 h1 h2 h3 h4 h5 h6 h7 h8 h9 h10
    obtain ⟨g1, g2⟩ := cj_u hP hD h6 hFc h4 h5
    exact kx E ce q9 L' f' H1 locs1 h1 (hT.go h3 h2) h3 g1 g2 h7 h8 h9 h10
  · intro r L' f' H1 locs1 h1 h2 h3 h4 h5 h6 h7
    obtain ⟨g1, g2⟩ := cj_u hP hD h6 hFc h4 h5
    exact kk r L' f' H1 locs1 h1 (hT.go h3 h2) h3 g1 g2 h7
theorem NU_V (C0 : CallFix p m c cc nL s args Ts own) (M : KC l dC dI sa g y ws rm (.ref b :: As) L f H.size kp mc ms) (cw : CallW R s args own Cn index y bytes maxL ret ws rm mc ms n)
    (hP : va_P (dC, dI) vwCl (va_pl L f ++ rw) H) (hD : va_D A (va_pl L f ++ rw)) (hK : va_K (dC, dI) vwCl (tyG g) s) (hS : va_S A s.heap H locs) (hA : ∀ q, s.heap.size ≤ q → A q) (hev : ev sa A s s.heap) (hT : TP g L f rs)
    (q0 ci : Nat) (hq : rs[q0]? = some (b, (0, ci, 0))) {qc : vw_C} (hci : vwCl[ci]? = some qc) (hqc : qc.1 = Cn)
    (hn0 : As.length = n) (hsz : ls.size = nL) (hst : st0 = As.reverse ++ .ref b :: rest) (hW : (rest.map fun v => v.category).sum ≤ 8) (hdg : decode cc pc = .ok (.invokevirtual index, 3)) (hf : cells + mc ≤ R.cells ∧ slots + ms ≤ R.slots)
    (kk : ∀ (r : Option Value) (L' : List Nat) (f' : Nat → va_E) (H1 : Heap) (locs1 : List Loc), kp r L' f' → TP g L' f' rs → Ext L f L' f' → va_P (dC, dI) vwCl (va_pl L' f' ++ rw) H1 → va_D A (va_pl L' f' ++ rw) → va_S A s.heap H1 locs1 → W p l e R s m args below meth c H1 locs1 (cells + mc) (slots + ms) Q (F0 m (pc + 3) ls (r.toList ++ rest))) :
    W p l e R s m args below meth c H locs cells slots Q (F0 m pc ls st0) := by
  subst hqc
  have hPu := app_lP hP
  have hDu := app_lD hD
  have hat := K_at hPu hDu hK hS hA hev
  have hFc := free_all hDu hS hA
  obtain ⟨j, fs, he⟩ := K_recv hK hPu hT q0 hq hci
  refine N_run (av := .ref b :: As) (va_runV C0 M cw ⟨PW.blind, va_recv hK hPu hci he, fun U hU hW => ⟨rfl, hat U hU hW⟩⟩ rfl hn0 hsz hst (lv_room hW) hdg hf) hDu hS hA ?_
  intro r ⟨L', f'⟩ H1 locs1 ⟨h2, h3, h1⟩ h4 h5 h6 h7
  obtain ⟨g1, g2⟩ := cj_u hP hD h6 hFc h4 h5
  exact kk r L' f' H1 locs1 h1 (hT.go h3 h2) h3 g1 g2 h7
/-- the model's method, out of a world that ends with it -/
theorem NV_V (C0 : CallFix p m c cc nL s args Ts own) (M : CT l dC dI sa y ws rm (.ref b :: As) w tys H.size post wB (fun _ => []) mc ms) (cw : CallW R s args own Cn index y bytes maxL ret ws rm mc ms n)
    (hP : va_P (dC, dI) vwCl (rw ++ w) H) (hD : va_D A (rw ++ w)) (hK : va_K (dC, dI) vwCl tys s) (hS : va_S A s.heap H locs) (hA : ∀ q, s.heap.size ≤ q → A q) (hev : ev sa A s s.heap)
    {fs : List Value} {qc : vw_C} {ci : Nat} (he : w[0]? = some (b, .inr (ci, fs))) (hci : vwCl[ci]? = some qc) (hqc : qc.1 = Cn)
    (hn0 : As.length = n) (hsz : ls.size = nL) (hst : st0 = As.reverse ++ .ref b :: rest) (hW : (rest.map fun v => v.category).sum ≤ 8) (hdg : decode cc pc = .ok (.invokevirtual index, 3)) (hf : cells + mc ≤ R.cells ∧ slots + ms ≤ R.slots)
    (kk : ∀ (r : Option Value) (u : S) (H1 : Heap) (locs1 : List Loc), post r u → va_P (dC, dI) vwCl (rw ++ wB u) H1 → va_D A (rw ++ wB u) → va_S A s.heap H1 locs1 → W p l e R s m args below meth c H1 locs1 (cells + mc) (slots + ms) Q (F0 m (pc + 3) ls (r.toList ++ rest))) :
    W p l e R s m args below meth c H locs cells slots Q (F0 m pc ls st0) := by
  subst hqc
  have hPu := app_rP hP
  have hDu := app_rD hD
  have hat := M_at hPu hDu hK hS hA hev
  have hFc := free_all hDu hS hA
  refine N_run (av := .ref b :: As) (va_runV C0 M cw ⟨PW.blind, va_recv hK hPu hci he, fun U hU hW => ⟨rfl, hat U hU hW⟩⟩ rfl hn0 hsz hst (lv_room hW) hdg hf) hDu hS hA ?_
  intro r u H1 locs1 h1 h4 h5 h6 h7
  obtain ⟨g1, g2⟩ := cj_v hP hD h6 hFc h4 h5
  exact kk r u H1 locs1 h1 g1 g2 h7
/-- a static method with a table of its own, out of a world that begins with its own -/
theorem NW_S {hh : List (Nat × Nat × Nat × Nat)} (C0 : CallFix p m c cc nL s args Ts own) (M : CT l dC dI sa y ws rm As w tys H.size post wB (fun _ => []) mc ms) (cw : vx_CSW R s args own index y bytes maxL ret hh ws rm mc ms n)
    (hP : va_P (dC, dI) vwCl (w ++ rw) H) (hD : va_D A (w ++ rw)) (hK : va_K (dC, dI) vwCl tys s) (hS : va_S A s.heap H locs) (hA : ∀ q, s.heap.size ≤ q → A q) (hev : ev sa A s s.heap)
    (hn0 : As.length = n) (hsz : ls.size = nL) (hst : st0 = As.reverse ++ rest) (hW : (rest.map fun v => v.category).sum ≤ 8) (hdg : decode cc pc = .ok (.invokestatic index, 3)) (hf : cells + mc ≤ R.cells ∧ slots + ms ≤ R.slots)
    (kk : ∀ (r : Option Value) (u : S) (H1 : Heap) (locs1 : List Loc), post r u → va_P (dC, dI) vwCl (wB u ++ rw) H1 → va_D A (wB u ++ rw) → va_S A s.heap H1 locs1 → W p l e R s m args below meth c H1 locs1 (cells + mc) (slots + ms) Q (F0 m (pc + 3) ls (r.toList ++ rest))) :
    W p l e R s m args below meth c H locs cells slots Q (F0 m pc ls st0) := by
  have hPu := app_lP hP
  have hDu := app_lD hD
  have hat := M_at hPu hDu hK hS hA hev
  have hFc := free_all hDu hS hA
  refine N_run (av := As) (vx_runSW (hh := hh) C0 M cw ⟨PW.blind, fun U hU hW => ⟨rfl, hat U hU hW⟩⟩ rfl hn0 hsz hst (lv_room hW) hdg hf) hDu hS hA ?_
  intro r u H1 locs1 h1 h4 h5 h6 h7
  obtain ⟨g1, g2⟩ := cj_u hP hD h6 hFc h4 h5
  exact kk r u H1 locs1 h1 g1 g2 h7
end SBN
