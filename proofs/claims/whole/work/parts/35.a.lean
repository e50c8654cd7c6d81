/-! the calls, on the state: what is thrown (0 nothing), the answer, the state behind -/
noncomputable abbrev OP : Type := Int32 × Int32 × AS
noncomputable abbrev inV (v : Int32) : Prop := 0 ≤ v.toInt ∧ v.toInt < 6
noncomputable abbrev inC (s : AS) (k : Int32) : Prop := 0 ≤ k.toInt ∧ k.toInt < (s.1 12).toInt
noncomputable def chG (v n : Int32) (s : AS) : OP := if inV v then (if n < 1 ∨ 1000000 - s.2 4 v.toNatClampNeg < n then (0, -1, s) else (0, s.2 4 v.toNatClampNeg + n, (va_up s.1 3 (s.1 3 + n), va_up s.2 4 (upd (s.2 4) v.toNatClampNeg (s.2 4 v.toNatClampNeg + n))))) else (1, 0, s)
noncomputable def fdS (v n : Int32) (s : AS) : OP := if inV v then (if 1 ≤ n ∧ n ≤ 1000 then (0, tfS (s.2 5 v.toNatClampNeg) (s.2 7 v.toNatClampNeg) n, feA s v.toNatClampNeg n) else (2, 0, s)) else (1, 0, s)
noncomputable def lmS (v : Int32) (s : AS) : OP := if inV v then (0, liS (s.2 7 v.toNatClampNeg) (s.2 5 v.toNatClampNeg), lmA s v.toNatClampNeg) else (1, 0, s)
noncomputable def hN : Nat → AS → AS
  | 0, s => s
  | n + 1, s => hN n (hoA s)
noncomputable def hrS (n : Int32) (s : AS) : OP := if 0 ≤ n ∧ n ≤ 10000 then (0, (hN n.toNatClampNeg s).1 1, hN n.toNatClampNeg s) else (1, 0, s)
noncomputable def dpS (k v m : Int32) (s : AS) : OP := if inC s k then (if inV v then (if 1 ≤ m ∧ m ≤ 20 then (if s.2 7 v.toNatClampNeg = 2 ∨ ¬ s.2 16 k.toNatClampNeg = -1 then (0, -1, s) else (0, mvA s k.toNatClampNeg v.toNatClampNeg m, diA s k.toNatClampNeg v.toNatClampNeg m (mvA s k.toNatClampNeg v.toNatClampNeg m))) else (2, 0, s)) else (1, 0, s)) else (1, 0, s)
noncomputable def trS (k w : Int32) (s : AS) : OP := if inC s k then (if 0 ≤ w ∧ w ≤ 2 then (if ¬ s.2 16 k.toNatClampNeg = -1 then (0, -1, s) else if w = 0 then (0, s.2 14 k.toNatClampNeg / 8, aiA s k.toNatClampNeg) else if w = 1 then (0, s.2 14 k.toNatClampNeg + s.2 15 k.toNatClampNeg / 20, waA s k.toNatClampNeg) else (0, s.2 14 k.toNatClampNeg / 8, dyS s k.toNatClampNeg)) else (2, 0, s)) else (1, 0, s)
/-! runs -/
noncomputable def rs0 (l : Int32) (s : AS) : AS := (va_up (va_up (va_up (va_up (va_up s.1 39 l) 40 0) 41 0) 42 0) 43 0, s.2)
noncomputable def rsl (e : Int32) : Int32 := if e = 0 then 0 else if e = 1000 then 2 else 1
noncomputable def rfl_ (e : Int32) : Int32 := if e = 1000 then 0 else e
noncomputable def rfi (u : Int32 × AS) : AS := (va_up (va_up u.2.1 44 (rsl u.1)) 45 (rfl_ u.1), u.2.2)
noncomputable def fiX (s : AS) (r : Int32) : Int32 := if s.2 34 r.toNatClampNeg = -2 then -1 else s.2 34 r.toNatClampNeg
noncomputable abbrev rnN (r k l : Int32) (s : AS) : Prop := r < 0 ∨ 8 ≤ r ∨ l < 1 ∨ 5000 < l ∨ s.2 34 r.toNatClampNeg = -1 ∨ ¬ s.2 16 k.toNatClampNeg = -1
noncomputable def rnR (r k l : Int32) (s : AS) (o : OP) : Prop := (¬ inC s k ∧ o = (1, 0, s)) ∨ (inC s k ∧ rnN r k l s ∧ o = (0, -1, s)) ∨ (inC s k ∧ ¬ rnN r k l s ∧ ∃ u : Int32 × AS, EvR 0 (fiX s r) 0 k.toNatClampNeg (rs0 l s) u ∧ o = (0, rsl u.1, rfi u))
theorem rnR.one {r k l : Int32} {s : AS} {o o' : OP} (h : rnR r k l s o) (h' : rnR r k l s o') : o = o' := by
  rcases h with ⟨a, b⟩ | ⟨a, b, c⟩ | ⟨a, b, u, c, d⟩
  · rcases h' with ⟨a', b'⟩ | ⟨a', b', c'⟩ | ⟨a', b', u', c', d'⟩
    · rw [b, b']
    · exact absurd a' a
    · exact absurd a' a
  · rcases h' with ⟨a', b'⟩ | ⟨a', b', c'⟩ | ⟨a', b', u', c', d'⟩
    · exact absurd a a'
    · rw [c, c']
    · exact absurd b b'
  · rcases h' with ⟨a', b'⟩ | ⟨a', b', c'⟩ | ⟨a', b', u', c', d'⟩
    · exact absurd a a'
    · exact absurd b' b
    · have := c.one c'
      subst this
      rw [d, d']
/-- a recipe of the class against the reference's -/
noncomputable def TREE (L : List Nat) (f : Nat → va_E) (rc : Nat) (s : AS) (r : Nat) : Prop := (s.2 34 r = -1 ∧ ra f rc r = none) ∨ (¬ s.2 34 r = -1 ∧ ∃ (rb : Nat) (V : Nat → Prop) (ad dp : Nat → Nat), ra f rc r = some rb ∧ (rb ∈ L ∧ sh (f rb) = (0, 3, 0)) ∧ rd f rb 0 = lkr ad (if s.2 34 r = -2 then -1 else s.2 34 r) ∧ TRS V ad L f s ∧ LVS V dp s ∧ NV V s ∧ lk V dp 0 (if s.2 34 r = -2 then -1 else s.2 34 r))
section OPS
variable {g : Nat → Nat} {L L' : List Nat} {f f' f2 : Nat → va_E} {x0 wk vs cl ru rc : Nat} {va : Nat → Nat} {s s' : AS} {cs : List (Nat × Nat)}
theorem NVk.go {k : Nat} (h : NVk s k) (hf : ∀ j : Nat, 19 ≤ j → s'.2 j = s.2 j) : NVk s' k := by
  unfold NVk at h ⊢
  rw [hf 26 (by omega), hf 27 (by omega), hf 28 (by omega), hf 29 (by omega)]
  exact h
theorem NV.go {V : Nat → Prop} (h : NV V s) (hf : ∀ j : Nat, 19 ≤ j → s'.2 j = s.2 j) : NV V s' := fun k hk => ⟨(h k hk).1.go hf, fun j hj => by rw [hf j (by omega)]; exact (h k hk).2 j hj⟩
theorem TREE.go {r : Nat} (h : TREE L f rc s r) (hrc : rc ∈ L ∧ sh (f rc) = (2, g 4, 8)) (hE : Ext L f L' f') (hF : Fr cs L f f') (hc : ∀ c ∈ cs, c.1 ≠ 5 ∧ c.1 ≠ 3 ∧ c ≠ (200, 8)) (hf : ∀ j : Nat, 19 ≤ j → s'.2 j = s.2 j) : TREE L' f' rc s' r := by
  have er : f' rc = f rc := hF.2 rc hrc.1 1 _ _ hrc.2 (fun g => (hc _ g).2.2 rfl)
  unfold TREE at h ⊢
  rw [ra_eq er, hf 34 (by omega)]
  rcases h with h | ⟨h0, rb, V, ad, dp, h1, h2, h3, h4, h5, h6, h7⟩
  · exact Or.inl h
  · exact Or.inr ⟨h0, rb, V, ad, dp, h1, mem_ext h2 hE, (hF.1 rb h2.1 3 h2.2 0 (fun g => (hc _ g).2.1 rfl)).trans h3, h4.go hE hF (fun c hm => (hc c hm).1) hf, h5.go hf, h6.go hf, h7⟩
theorem nI_inj6 {v : Int32} (h : inV v) : v = nI v.toNatClampNeg ∧ v.toNatClampNeg < 6 := by
  have := clamp_i h.1
  exact ⟨nI_cl h.1, by omega⟩
theorem inC_c {k : Int32} (h : inC s k) : k = nI k.toNatClampNeg ∧ (k.toNatClampNeg : Int) < (s.1 12).toInt := by
  have := clamp_i h.1
  exact ⟨nI_cl h.1, by omega⟩
theorem SR.th (h : SR g L f (x0, wk, vs, cl, ru, va) s) (e1 : ∀ j : Nat, j ≠ 0 → s'.1 j = s.1 j) (e2 : s'.2 = s.2) : SR g L f (x0, wk, vs, cl, ru, va) s' := by
  obtain ⟨h1, h2, h3, h4, h5, h6⟩ := h
  refine ⟨h1, fun k hk => ⟨(h2 k hk).1, (h2 k hk).2.st (e1 1 (by decide)) (fun j _ => by rw [e2])⟩, fun k hk => ?_, ?_, ?_, ?_⟩
  · rw [e1 12 (by decide)] at hk
    obtain ⟨b, g1, g2⟩ := h3 k hk
    exact ⟨b, g1, g2.st (fun j _ _ => by rw [e2])⟩
  · unfold WN; rw [e1 1 (by decide), e1 2 (by decide)]; exact h4
  · unfold HN; rw [e1 12 (by decide), e1 3 (by decide), e1 37 (by decide)]; exact h5
  · unfold RN; rw [e1 39 (by decide), e1 44 (by decide), e1 45 (by decide), e1 40 (by decide), e1 41 (by decide), e1 42 (by decide), e1 43 (by decide)]; exact h6
theorem HN.put {k i : Nat} {x : Int32} (h : HN f x0 s) (hki : (k, i) ∈ [(2, 12), (3, 3), (8, 37)]) (hrd : ∀ b j : Nat, rd f2 b j = if b = x0 ∧ j = k then .int x else rd f b j) : HN f2 x0 (va_up s.1 i x, s.2) := by
  obtain ⟨h1, h2, h3⟩ := h
  simp only [List.mem_cons, Prod.mk.injEq, List.not_mem_nil, or_false] at hki
  rcases hki with ⟨rfl, rfl⟩ | ⟨rfl, rfl⟩ | ⟨rfl, rfl⟩ <;> refine ⟨?_, ?_, ?_⟩ <;> rw [hrd] <;> simp [va_up, h1, h2, h3]
/-- the grains put in, or the steps read, are others -/
theorem SR.ph {k i : Nat} {x : Int32} (h : SR g L f (x0, wk, vs, cl, ru, va) s) (hki : (k, i) ∈ [(3, 3), (8, 37)]) (hE : Ext L f L f2) (hrd : ∀ b j : Nat, rd f2 b j = if b = x0 ∧ j = k then .int x else rd f b j) (hup : ∀ b : Nat, b ≠ x0 → f2 b = f b) : SR g L f2 (x0, wk, vs, cl, ru, va) (va_up s.1 i x, s.2) := by
  have hk : (k = 3 ∧ i = 3) ∨ (k = 8 ∧ i = 37) := by
    simp only [List.mem_cons, Prod.mk.injEq, List.not_mem_nil, or_false] at hki
    exact hki
  have hF : Fr [(9, k)] L f f2 := Fr.put (cs := [(9, k)]) (a := x0) (ci := 9) Fr.rf Ext.rf h.1.1.1.2 (List.mem_singleton.mpr rfl) hrd hup
  have n9 : ∀ l : List (Nat × Nat), (∀ c ∈ l, c ≠ (9, 3) ∧ c ≠ (9, 8)) → ∀ c ∈ l, c ∉ [(9, k)] := fun l h1 c h2 h3 => by
    have := List.mem_singleton.mp h3
    rcases hk with ⟨rfl, -⟩ | ⟨rfl, -⟩
    · exact (h1 c h2).1 this
    · exact (h1 c h2).2 this
  have hi : i = 3 ∨ i = 37 := by rcases hk with ⟨-, h⟩ | ⟨-, h⟩ <;> simp [h]
  obtain ⟨p1, p2, p3⟩ := h.parts hE hF (n9 _ (by decide)) (n9 _ (by decide))
  exact ⟨p1, h.2.1.same hE p2 (OF.fr hF (fun c hm => by rw [List.mem_singleton.mp hm]; show 9 ≠ 7; decide)) (up_i (by omega)) (fun _ _ _ => rfl), h.2.2.1.same hE p3 (OF.fr hF (fun c hm => by rw [List.mem_singleton.mp hm]; show 9 ≠ 0; decide)) (up_i (by omega)) (fun _ _ _ _ => rfl), h.wn hF (n9 _ (by decide)) (up_i (by omega)) (up_i (by omega)), h.2.2.2.2.1.put (by rcases hk with ⟨rfl, rfl⟩ | ⟨rfl, rfl⟩ <;> decide) hrd, h.rn hF (n9 _ (by decide)) (fun j h1 h2 => up_i (by omega))⟩
/-- charged -/
theorem SR.ch {k b : Nat} {n : Int32} (h : SR g L f (x0, wk, vs, cl, ru, va) s) (hk : k < 6) (hb : b = va k) (hE : Ext L f L f2) (hrd : ∀ q j : Nat, rd f2 q j = if q = b ∧ j = 1 then .int n else rd f q j) (hup : ∀ q : Nat, q ≠ b → f2 q = f q) : SR g L f2 (x0, wk, vs, cl, ru, va) (s.1, va_up s.2 4 (upd (s.2 4) k n)) := by
  subst hb
  obtain ⟨q0, g0, g1, g2, g3, g4, g5, g6, ld, g7, g8⟩ := (h.2.1 k hk).2
  have hF : Fr [(7, 1)] L f f2 := Fr.put (cs := [(7, 1)]) (a := va k) (ci := 7) Fr.rf Ext.rf q0.2 (by decide) hrd hup
  have q : ∀ j : Nat, (7, j) ∉ [(7, 1)] → rd f2 (va k) j = rd f (va k) j := fun j hj => hF.1 _ q0.1 7 q0.2 j hj
  refine h.vat1 hk hE hF (by decide) (OF.put OF.rf hrd (by simp)) ⟨mem_ext q0 hE, (q 0 (by decide)).trans g0, ?_, (q 2 (by decide)).trans g2, (q 3 (by decide)).trans g3, (q 4 (by decide)).trans g4, (q 5 (by decide)).trans g5, (q 6 (by decide)).trans g6, ld, (q 7 (by decide)).trans g7, g8⟩ rfl (fun i hi j hj => up_ne rfl hi) (fun i j h1 h2 => up_j (by omega))
  rw [show (s.1, va_up s.2 4 (upd (s.2 4) k n)).2 4 k = n from if_pos rfl]
  exact (hrd _ _).trans (if_pos ⟨rfl, rfl⟩)
end OPS
