/-! the model: one object and its rows; i its numbers, a its rows, by the field's place -/
noncomputable def mw (g : Nat → Nat) (h0 : Nat) (b : Nat → Nat) (i : Nat → Int32) (a : Nat → Nat → Int32) : va_W := [(h0, .inr (10, [.int (i 0), .int (i 1), .int (i 2), .int (i 3), .ref (b 4), .ref (b 5), .ref (b 6), .ref (b 7), .ref (b 8), .ref (b 9), .ref (b 10), .ref (b 11), .int (i 12), .ref (b 13), .ref (b 14), .ref (b 15), .ref (b 16), .ref (b 17), .ref (b 18), .ref (b 19), .int (i 20), .int (i 21), .int (i 22), .int (i 23), .int (i 24), .int (i 25), .ref (b 26), .ref (b 27), .ref (b 28), .ref (b 29), .ref (b 30), .ref (b 31), .ref (b 32), .ref (b 33), .ref (b 34), .ref (b 35), .int (i 36), .int (i 37), .int (i 38), .int (i 39), .int (i 40), .int (i 41), .int (i 42), .int (i 43), .int (i 44), .int (i 45), .int (i 46), .ref (b 47), .ref (b 48), .ref (b 49), .ref (b 50)])), (b 4, .inl (g 4, 6, .inl (a 4))), (b 5, .inl (g 5, 6, .inl (a 5))), (b 6, .inl (g 6, 6, .inl (a 6))), (b 7, .inl (g 7, 6, .inl (a 7))), (b 8, .inl (g 8, 6, .inl (a 8))), (b 9, .inl (g 9, 6, .inl (a 9))), (b 10, .inl (g 10, 6, .inl (a 10))), (b 11, .inl (g 11, 6, .inl (a 11))), (b 13, .inl (g 13, 30, .inl (a 13))), (b 14, .inl (g 14, 30, .inl (a 14))), (b 15, .inl (g 15, 30, .inl (a 15))), (b 16, .inl (g 16, 30, .inl (a 16))), (b 17, .inl (g 17, 30, .inl (a 17))), (b 18, .inl (g 18, 30, .inl (a 18))), (b 19, .inl (g 19, 1500, .inl (a 19))), (b 26, .inl (g 26, 2700, .inl (a 26))), (b 27, .inl (g 27, 2700, .inl (a 27))), (b 28, .inl (g 28, 2700, .inl (a 28))), (b 29, .inl (g 29, 2700, .inl (a 29))), (b 30, .inl (g 30, 2700, .inl (a 30))), (b 31, .inl (g 31, 2700, .inl (a 31))), (b 32, .inl (g 32, 2700, .inl (a 32))), (b 33, .inl (g 33, 2700, .inl (a 33))), (b 34, .inl (g 34, 8, .inl (a 34))), (b 35, .inl (g 35, 8, .inl (a 35))), (b 47, .inl (g 47, 3, .inl (a 47))), (b 48, .inl (g 48, 3, .inl (a 48))), (b 49, .inl (g 49, 3, .inl (a 49))), (b 50, .inl (g 50, 104, .inl (a 50)))]
noncomputable def tyM (g : Nat → Nat) : List (ClassId × FieldType) := [(g 4, .int), (g 5, .int), (g 6, .int), (g 7, .int), (g 8, .int), (g 9, .int), (g 10, .boolean), (g 11, .boolean), (g 13, .int), (g 14, .int), (g 15, .int), (g 16, .int), (g 17, .int), (g 18, .int), (g 19, .int), (g 26, .int), (g 27, .int), (g 28, .int), (g 29, .int), (g 30, .int), (g 31, .int), (g 32, .int), (g 33, .int), (g 34, .int), (g 35, .int), (g 47, .int), (g 48, .int), (g 49, .int), (g 50, .int)]
section MM
variable {p : Program} {l : Launch} {e : Env} {R : Room} {s : State} {m : MethodId} {args : Array Value} {below : List Frame} {meth : Method} {c : Code} {H : Heap} {locs : List Loc} {cells slots : Nat} {Q : State → Prop}
variable {dC : Nat → ClassId} {dI : Nat → Nat → Nat} {sa : Nat → Nat} {A : Nat → Prop} {w : va_W} {tys : List (ClassId × FieldType)} {S : Type} {post : Option Value → S → Prop} {wB : S → va_W}
variable {y : MethodName} {bytes cc : ByteArray} {maxL nL mc ms n index : Nat} {ret : Option FieldType} {ws : List Cond} {rm : Room} {Ts : List Cond} {own Cn : String} {b : Addr} {As rest st0 : List Value} {pc : Nat} {ls : Array Slot} {av : List Value}
theorem M_at (hP : va_P (dC, dI) vwCl w H) (hD : va_D A w) (hK : va_K (dC, dI) vwCl tys s) (hS : va_S A s.heap H locs) (hA : ∀ q, s.heap.size ≤ q → A q) (hev : ev sa A s s.heap) : ∀ U : State, U.heap = H → s.WarmedH U.vm → PW dC dI sa w tys H.size U := by
  intro U hU hW
  have hFc := free_all hD hS hA
  refine ⟨by rw [hU], by rw [hU]; exact hP, va_K.moved hW.alike hK, hD.weaken (fun _ _ _ _ => trivial), ?_⟩
  rw [hU]
  exact ev.go hW hev (fun a h1 h2 => hS.2.1 a h1 h2) hFc
theorem M_run (hr : va_Run p l e R s m args below meth c H locs cells slots mc ms (F0 m pc ls st0) rest (Qg post (fun u t => QW dC dI (va_A w H.size) (wB u) [] t) (va_A w H.size) av.toArray) (va_A w H.size))
    (hD : va_D A w) (hS : va_S A s.heap H locs) (hA : ∀ q, s.heap.size ≤ q → A q)
    (kk : ∀ (r : Option Value) (u : S) (H1 : Heap) (locs1 : List Loc), post r u → va_P (dC, dI) vwCl (wB u) H1 → va_D A (wB u) → va_S A s.heap H1 locs1 → W p l e R s m args below meth c H1 locs1 (cells + mc) (slots + ms) Q (F0 m (pc + 3) ls (r.toList ++ rest))) :
    W p l e R s m args below meth c H locs cells slots Q (F0 m pc ls st0) := by
  intro T hT0 X
  have hFc := free_all hD hS hA
  obtain ⟨v, st₀, t, T', Lo, h0, X', hL, e1, e2, ⟨⟨r, u, hv, hp, hb⟩, hF⟩, st⟩ := hr T hT0 X
  cases hv
  obtain ⟨k1, k2, k3⟩ := vx_keep h0 e1 hS (fun q _ h => hFc q h) hFc hL hF
  obtain ⟨hP1, hK1, hD1⟩ := hb
  rw [← e1] at hP1
  obtain ⟨t2, a1, b1⟩ := kk v u T'.heap (locs ++ Lo) hp hP1 (hD1.weaken (fun _ q _ h => hFc q.1 h)) k3 T' rfl X'
  exact ⟨t2, st t2 a1, b1⟩
theorem M_V (C0 : CallFix p m c cc nL s args Ts own) (M : CT l dC dI sa y ws rm (.ref b :: As) w tys H.size post wB (fun _ => []) mc ms) (cw : CallW R s args own Cn index y bytes maxL ret ws rm mc ms n)
    (hP : va_P (dC, dI) vwCl w H) (hD : va_D A w) (hK : va_K (dC, dI) vwCl tys s) (hS : va_S A s.heap H locs) (hA : ∀ q, s.heap.size ≤ q → A q) (hev : ev sa A s s.heap)
    {fs : List Value} {qc : vw_C} {ci : Nat} (he : w[0]? = some (b, .inr (ci, fs))) (hci : vwCl[ci]? = some qc) (hqc : qc.1 = Cn)
    (hn0 : As.length = n) (hsz : ls.size = nL) (hst : st0 = As.reverse ++ .ref b :: rest) (hW : (rest.map fun v => v.category).sum ≤ 8) (hdg : decode cc pc = .ok (.invokevirtual index, 3)) (hf : cells + mc ≤ R.cells ∧ slots + ms ≤ R.slots)
    (kk : ∀ (r : Option Value) (u : S) (H1 : Heap) (locs1 : List Loc), post r u → va_P (dC, dI) vwCl (wB u) H1 → va_D A (wB u) → va_S A s.heap H1 locs1 → W p l e R s m args below meth c H1 locs1 (cells + mc) (slots + ms) Q (F0 m (pc + 3) ls (r.toList ++ rest))) :
    W p l e R s m args below meth c H locs cells slots Q (F0 m pc ls st0) := by
  subst hqc
  have hat := M_at hP hD hK hS hA hev
  exact M_run (av := .ref b :: As) (va_runV C0 M cw ⟨PW.blind, va_recv hK hP hci he, fun U hU hW => ⟨rfl, hat U hU hW⟩⟩ rfl hn0 hsz hst (lv_room hW) hdg hf) hD hS hA kk
variable {w0 : va_W}
theorem M_q (r : Option Value) (u : S) (hP : va_P (dC, dI) vwCl (wB u) H) (hD : va_D (va_A w0 s.heap.size) (wB u)) (hK : va_K (dC, dI) vwCl tys s) (hS : va_S (va_A w0 s.heap.size) s.heap H locs) (hpost : post r u) :
    ∀ t : State, t.heap = H → s.WarmedH t.vm → Qg post (fun u t => QW dC dI (va_A w0 s.heap.size) (wB u) [] t) (va_A w0 s.heap.size) args s (.returned r) t := fun t ht hW =>
  ⟨⟨r, u, rfl, hpost, by rw [ht]; exact hP, va_K.moved hW.alike (hK.sub [] rfl), hD⟩, hS.F ht⟩
theorem M_i {v : Int32} (hx : p.tables.exec = Jvm.exec) (hb : c.code = cc) (hr : meth.sig.returnType = some .int) (hlocks : meth.locks = false) (u : S) (hP : va_P (dC, dI) vwCl (wB u) H) (hD : va_D (va_A w0 s.heap.size) (wB u)) (hK : va_K (dC, dI) vwCl tys s) (hS : va_S (va_A w0 s.heap.size) s.heap H locs) (hpost : post (some (.int v)) u) (hc : cells ≤ mc) (hs : slots ≤ ms) (hdg : decode cc pc = .ok (.ireturn, 1)) :
    W p l e R s m args below meth c H locs cells slots (MQ below (Qg post (fun u t => QW dC dI (va_A w0 s.heap.size) (wB u) [] t) (va_A w0 s.heap.size)) args s mc ms (va_A w0 s.heap.size)) (F0 m pc ls [.int v]) :=
  W.widen hc hs (W.iret hx hb hr (M_q _ u hP hD hK hS hpost) hS.2.2 hdg hlocks)
theorem M_z {v : Int32} {ty : FieldType} (hx : p.tables.exec = Jvm.exec) (hb : c.code = cc) (hr : meth.sig.returnType = some ty) (hnar : narrow ty (.int v) = .int v) (hlocks : meth.locks = false) (u : S) (hP : va_P (dC, dI) vwCl (wB u) H) (hD : va_D (va_A w0 s.heap.size) (wB u)) (hK : va_K (dC, dI) vwCl tys s) (hS : va_S (va_A w0 s.heap.size) s.heap H locs) (hpost : post (some (.int v)) u) (hc : cells ≤ mc) (hs : slots ≤ ms) (hdg : decode cc pc = .ok (.ireturn, 1)) :
    W p l e R s m args below meth c H locs cells slots (MQ below (Qg post (fun u t => QW dC dI (va_A w0 s.heap.size) (wB u) [] t) (va_A w0 s.heap.size)) args s mc ms (va_A w0 s.heap.size)) (F0 m pc ls [.int v]) :=
  W.widen hc hs (W.zret hx hb hr hnar (M_q _ u hP hD hK hS hpost) hS.2.2 hdg hlocks)
theorem M_v (hx : p.tables.exec = Jvm.exec) (hb : c.code = cc) (hr : meth.sig.returnType = none) (hlocks : meth.locks = false) (u : S) (hP : va_P (dC, dI) vwCl (wB u) H) (hD : va_D (va_A w0 s.heap.size) (wB u)) (hK : va_K (dC, dI) vwCl tys s) (hS : va_S (va_A w0 s.heap.size) s.heap H locs) (hpost : post none u) (hc : cells ≤ mc) (hs : slots ≤ ms) (hdg : decode cc pc = .ok (.return_, 1)) :
    W p l e R s m args below meth c H locs cells slots (MQ below (Qg post (fun u t => QW dC dI (va_A w0 s.heap.size) (wB u) [] t) (va_A w0 s.heap.size)) args s mc ms (va_A w0 s.heap.size)) (F0 m pc ls []) :=
  W.widen hc hs (W.vret hx hb hr (M_q _ u hP hD hK hS hpost) hS.2.2 hdg hlocks)
end MM
/-- toInt of literals, comparisons -/
theorem nlt_i {x y : Int32} (h : ¬ x < y) : y.toInt ≤ x.toInt := by
  rw [Int32.lt_iff_toInt_lt] at h; omega
theorem lt_i {x y : Int32} (h : x < y) : x.toInt < y.toInt := Int32.lt_iff_toInt_lt.mp h
theorem nle_i {x y : Int32} (h : ¬ x ≤ y) : y.toInt < x.toInt := by
  rw [Int32.le_iff_toInt_le] at h; omega
theorem le_i {x y : Int32} (h : x ≤ y) : x.toInt ≤ y.toInt := Int32.le_iff_toInt_le.mp h
theorem eq_i {x y : Int32} (h : x = y) : x.toInt = y.toInt := by rw [h]
theorem ne_i {x y : Int32} (h : ¬ x = y) : x.toInt ≠ y.toInt := fun e => h (Int32.toInt_inj.mp e)
theorem add_i {x y z : Int32} (hz : z = x + y) (h1 : -2147483648 ≤ x.toInt + y.toInt) (h2 : x.toInt + y.toInt < 2147483648) : z.toInt = x.toInt + y.toInt := by
  rw [hz, Int32.toInt_add, Int.bmod_def]
  omega
theorem sub_i {x y z : Int32} (hz : z = x - y) (h1 : -2147483648 ≤ x.toInt - y.toInt) (h2 : x.toInt - y.toInt < 2147483648) : z.toInt = x.toInt - y.toInt := by
  rw [hz, Int32.toInt_sub, Int.bmod_def]
  omega
theorem in_i {x : Int32} {n : Nat} (h1 : 0 ≤ x.toInt) (h2 : x.toInt < n) : vp_in x n := vp_in_iff.mpr ⟨h1, h2⟩
theorem clamp_i {x : Int32} (h : 0 ≤ x.toInt) : (x.toNatClampNeg : Int) = x.toInt := by
  show ((x.toInt.toNat : Nat) : Int) = x.toInt
  omega
