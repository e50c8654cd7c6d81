/-! the class's steps of a reading, as they are made -/
section NTS
variable {K V : Nat → Int32} {N : Nat → Nat}
theorem gt_k : ∀ (n m d la : Nat) (u w : SGT), gt K V N n m d la u = some w → ∀ k j : Nat, j < u.1.2.1 → ¬ (m = 0 ∧ k = 3 ∧ la = j + 1) → w.2 k j = u.2 k j := by
  intro n
  induction n with
  | zero => intro m d la u w h; cases h
  | succ n ih =>
    intro m d la u w h k j hj hne
    have hw : tnew u.2 u.1.2.1 u.1.1 k j = u.2 k j := tnew_ne (by omega)
    have mo : ∀ (m d la : Nat) (a b : SGT), gt K V N n m d la a = some b → a.1.2.1 ≤ b.1.2.1 := fun m d la a b h => (EvT.nd ⟨n, h⟩).1
    match m with
    | 0 =>
      unfold gt at h
      by_cases c : u.1.2.2.1 = 0 ∧ 1 ≤ K u.1.1 ∧ K u.1.1 ≤ 12
      · rw [if_pos c] at h
        obtain ⟨a, h1, h2⟩ := bindT_some h
        have e2 := ih _ _ _ _ _ h2 k j (by have := mo _ _ _ _ _ h1; show j < a.1.2.1; omega) (by omega)
        rw [e2]
        show tnx a.2 la u.1.2.1 k j = _
        rw [tnx_ne (by omega)]
        exact ih _ _ _ _ _ h1 k j hj (by omega)
      · rw [if_neg c] at h; cases h; rfl
    | 1 =>
      unfold gt at h
      by_cases c1 : 300 ≤ u.1.2.1
      · rw [if_pos c1] at h; cases h; rfl
      rw [if_neg c1] at h
      by_cases c2 : K u.1.1 < 8
      · rw [if_pos c2] at h; cases h; exact hw
      rw [if_neg c2] at h
      have one : ∀ (s : SG) (v : SGT), s.2.1 = u.1.2.1 + 1 → gt K V N n 2 d 0 (s, (gst N u).2) = some v → (tl 1 u.1.2.1 (u.1.2.1 + 1) v).2 k j = u.2 k j ∧ j < v.1.2.1 := fun s v hs hv => by
        have e := ih _ _ _ _ _ hv k j (by show j < s.2.1; omega) (by omega)
        have m := mo _ _ _ _ _ hv
        have m : s.2.1 ≤ v.1.2.1 := m
        refine ⟨?_, by omega⟩
        show tset v.2 1 u.1.2.1 (thd (u.1.2.1 + 1) v.1.2.1) k j = _
        rw [tset_ne (by omega), e]
        exact hw
      have two : ∀ (c : Int32) (v x : SGT), v.2 k j = u.2 k j → j < v.1.2.1 → gt K V N n 2 d 0 (gpa K N c v.1, v.2) = some x → (tl 2 u.1.2.1 v.1.2.1 x).2 k j = u.2 k j := fun c v x h1 h2 h3 => by
        have e := ih _ _ _ _ _ h3 k j (by show j < (gpa K N c v.1).2.1; rw [gpa_nd]; exact h2) (by omega)
        show tset x.2 2 u.1.2.1 (thd v.1.2.1 x.1.2.1) k j = _
        rw [tset_ne (by omega), e]
        exact h1
      have nu : ∀ lo hi : Int32, (gnu K V N lo hi (gad N u.1)).2.1 = u.1.2.1 + 1 := fun lo hi => by rw [gnu_nd]; rfl
      by_cases c3 : K u.1.1 = 8
      · rw [if_pos c3] at h
        obtain ⟨a, h1, h2⟩ := bindT_some h
        cases h2
        exact (one _ a (nu 0 50) h1).1
      rw [if_neg c3] at h
      by_cases c4 : K u.1.1 = 9
      · rw [if_pos c4] at h
        obtain ⟨a, h1, h2⟩ := bindT_some h
        cases h2
        exact (one _ a (nu 0 200) h1).1
      rw [if_neg c4] at h
      by_cases c5 : K u.1.1 = 10
      · rw [if_pos c5] at h
        obtain ⟨a, h1, h2⟩ := bindT_some h
        have o := one (gte K V N (gad N u.1)) a (by rw [gte_nd]; rfl) h1
        by_cases c6 : K a.1.1 = 13
        · rw [if_pos c6] at h2
          obtain ⟨b, h3, h4⟩ := bindT_some h2
          cases h4
          exact two 13 (tl 1 u.1.2.1 (u.1.2.1 + 1) a) b o.1 o.2 h3
        · rw [if_neg c6] at h2
          cases h2
          exact o.1
      · rw [if_neg c5] at h
        obtain ⟨a, h1, h2⟩ := bindT_some h
        obtain ⟨b, h3, h4⟩ := bindT_some h2
        cases h4
        have o := one (gad N u.1) a rfl h1
        exact two _ (tl 1 u.1.2.1 (u.1.2.1 + 1) a) b o.1 o.2 h3
    | m + 2 =>
      unfold gt at h
      by_cases c1 : (gob K N d u.1).2.2.1 = 0
      · rw [if_pos c1] at h
        obtain ⟨a, h1, h2⟩ := bindT_some h
        cases h2
        exact ih _ _ _ _ _ h1 k j (by show j < (gob K N d u.1).2.1; rw [gob_nd]; exact hj) (by omega)
      · rw [if_neg c1] at h; cases h; rfl
theorem EvT.tk {m d la : Nat} {u w : SGT} (h : EvT K V N m d la u w) : ∀ k j : Nat, j < u.1.2.1 → ¬ (m = 0 ∧ k = 3 ∧ la = j + 1) → w.2 k j = u.2 k j := by
  obtain ⟨n, h⟩ := h
  exact gt_k n m d la u w h
/-- one step, as the class holds it -/
noncomputable def nT (K V : Nat → Int32) (N : Nat → Nat) (L : List Nat) (f : Nat → va_E) (ad : Nat → Nat) (T : TT) (n j : Nat) : Prop := ((ad j ∈ L ∧ sh (f (ad j)) = (0, 5, 0)) ∧ rd f (ad j) 0 = .int (K (T 0 j)) ∧ ctC K V N (T 0 j) (rd f (ad j) 1) (rd f (ad j) 2) (rd f (ad j) 3) (rd f (ad j) 4) ∧ rd f (ad j) 5 = lkv ad (T 1 j) ∧ rd f (ad j) 6 = lkv ad (T 2 j) ∧ rd f (ad j) 7 = lkv ad (T 3 j)) ∧ T 1 j ≤ n ∧ T 2 j ≤ n ∧ T 3 j ≤ n
/-- the steps lo .. n - 1, made since L0 -/
noncomputable def NTc (K V : Nat → Int32) (N : Nat → Nat) (L0 L : List Nat) (f : Nat → va_E) (ad : Nat → Nat) (T : TT) (lo n : Nat) : Prop := (∀ j : Nat, lo ≤ j → j < n → ad j ∉ L0 ∧ nT K V N L f ad T n j) ∧ ∀ i j : Nat, lo ≤ i → i < n → lo ≤ j → j < n → ad i = ad j → i = j
variable {L L0 L1 L2 L3 L4 : List Nat} {f f0 f1 f2 f3 f4 : Nat → va_E} {ad ad1 ad2 : Nat → Nat} {T T1 T2 : TT} {lo n n1 n2 k0 la a o d : Nat} {v : Value} {q q1 q2 qn : SG}
theorem lkv_ag {m x : Nat} (h : ∀ j : Nat, j < m → ad1 j = ad j) (hx : x ≤ m) : lkv ad1 x = lkv ad x := by
  unfold lkv
  by_cases e : x = 0
  · rw [if_pos e, if_pos e]
  · rw [if_neg e, if_neg e, h _ (by omega)]
theorem nT.go {j : Nat} (h : nT K V N L f ad T n j) (hj : j < n) (hE : Ext L f L1 f1) (hr : ∀ k : Nat, rd f1 (ad j) k = rd f (ad j) k) (ha : ∀ i : Nat, i < n → ad1 i = ad i) (hT : ∀ k : Nat, T1 k j = T k j) (hn : n ≤ n1) : nT K V N L1 f1 ad1 T1 n1 j := by
  obtain ⟨⟨h0, h1, h2, h3, h4, h5⟩, b1, b2, b3⟩ := h
  unfold nT
  rw [ha j hj, hT 0, hT 1, hT 2, hT 3, hr, hr, hr, hr, hr, hr, hr, hr, lkv_ag ha b1, lkv_ag ha b2, lkv_ag ha b3]
  exact ⟨⟨⟨(hE _ h0.1).1, (hE _ h0.1).2.trans h0.2⟩, h1, h2, h3, h4, h5⟩, by omega, by omega, by omega⟩
theorem NTc.nil : NTc K V N L0 L f ad T lo lo := ⟨fun j h1 h2 => absurd h1 (by omega), fun i j h1 h2 => absurd h1 (by omega)⟩
theorem NTc.mo (h : NTc K V N L1 L2 f2 ad T lo n) (hs : ∀ b ∈ L0, b ∈ L1) (hE : Ext L2 f2 L3 f3) {as : List Nat} (hO : OF 5 as L2 f2 f3) (has : ∀ b ∈ as, b ∈ L1) : NTc K V N L0 L3 f3 ad T lo n :=
  ⟨fun j h1 h2 => ⟨fun g => (h.1 j h1 h2).1 (hs _ g), (h.1 j h1 h2).2.go h2 hE (hO _ (h.1 j h1 h2).2.1.1.1 (h.1 j h1 h2).2.1.1.2 (fun g => (h.1 j h1 h2).1 (has _ g))) (fun _ _ => rfl) (fun _ => rfl) (Nat.le_refl _)⟩, h.2⟩
theorem NTc.cat (h1 : NTc K V N L0 L1 f1 ad1 T1 lo n1) (h2 : NTc K V N L1 L2 f2 ad2 T2 n1 n2) (hs : ∀ b ∈ L0, b ∈ L1) (hE : Ext L1 f1 L2 f2) (hO : OF 5 [] L1 f1 f2) (ha : ∀ j : Nat, j < n1 → ad2 j = ad1 j) (hT : ∀ k j : Nat, j < n1 → T2 k j = T1 k j) (hn : n1 ≤ n2) : NTc K V N L0 L2 f2 ad2 T2 lo n2 := by
  have old : ∀ j : Nat, lo ≤ j → j < n1 → ad2 j ∈ L1 := fun j g1 g2 => by rw [ha j g2]; exact (h1.1 j g1 g2).2.1.1.1
  refine ⟨fun j g1 g2 => ?_, fun i j a1 a2 b1 b2 e => ?_⟩
  · by_cases c : j < n1
    · have g := h1.1 j g1 c
      exact ⟨by rw [ha j c]; exact g.1, g.2.go c hE (hO _ g.2.1.1.1 g.2.1.1.2 (by simp)) ha (fun k => hT k j c) hn⟩
    · have g := h2.1 j (by omega) g2
      exact ⟨fun m => g.1 (hs _ m), g.2⟩
  · by_cases c : i < n1
    · by_cases c2 : j < n1
      · rw [ha i c, ha j c2] at e; exact h1.2 i j a1 c b1 c2 e
      · exact absurd (e ▸ old i a1 c) (h2.1 j (by omega) b2).1
    · by_cases c2 : j < n1
      · exact absurd (e.symm ▸ old j b1 c2) (h2.1 i (by omega) a2).1
      · exact h2.2 i j (by omega) a2 (by omega) b2 e
/-- the step behind the last one is hung in -/
theorem NTc.nx {x : Nat} (h : NTc K V N L0 L f ad T lo n) (hk : lo ≤ k0) (hk2 : k0 < n) (hx : x < n) (hE : Ext L f L f2) (hrd : ∀ b j : Nat, rd f2 b j = if b = ad k0 ∧ j = 7 then v else rd f b j) (hv : v = .ref (ad x)) : NTc K V N L0 L f2 ad (tnx T (k0 + 1) x) lo n := by
  refine ⟨fun j g1 g2 => ⟨(h.1 j g1 g2).1, ?_⟩, h.2⟩
  by_cases e : j = k0
  · subst e
    obtain ⟨⟨p0, p1, p2, p3, p4, p5⟩, b1, b2, b3⟩ := (h.1 j g1 g2).2
    have ne : ∀ k : Nat, ¬ k = 7 → rd f2 (ad j) k = rd f (ad j) k := fun k hk => by rw [hrd, if_neg (fun g => hk g.2)]
    have e7 : rd f2 (ad j) 7 = .ref (ad x) := by rw [hrd, if_pos ⟨rfl, rfl⟩]; exact hv
    unfold nT
    rw [tnx_ne (by omega), tnx_ne (k' := 1) (by omega), tnx_ne (k' := 2) (by omega), tnx_at, ne 0 (by omega), ne 1 (by omega), ne 2 (by omega), ne 3 (by omega), ne 4 (by omega), ne 5 (by omega), ne 6 (by omega), e7]
    exact ⟨⟨⟨(hE _ p0.1).1, (hE _ p0.1).2.trans p0.2⟩, p1, p2, p3, p4, (if_neg (by omega)).symm⟩, b1, b2, by omega⟩
  · exact (h.1 j g1 g2).2.go g2 hE (fun k => by rw [hrd, if_neg (fun g => e (h.2 _ _ g1 g2 hk hk2 g.1))]) (fun _ _ => rfl) (fun k => tnx_ne (by omega)) (Nat.le_refl _)
theorem thd_le {a b : Nat} (h : a ≤ b) : thd a b ≤ b := by
  unfold thd
  by_cases e : a = b
  · rw [if_pos e]; omega
  · rw [if_neg e]; omega
theorem thd_1 {a b : Nat} (h : a < b) : thd a b = a + 1 := if_neg (by omega)
/-- a reading of the class: its end, its steps, what it gives back -/
noncomputable def PB (K V : Nat → Int32) (N : Nat → Nat) (m d : Nat) (q qn : SG) (T T' : TT) (ad ad' : Nat → Nat) (L L' : List Nat) (f' : Nat → va_E) (v : Value) : Prop := EvT K V N m d 0 (q, T) (qn, T') ∧ (∀ j : Nat, j < q.2.1 → ad' j = ad j) ∧ NTc K V N L L' f' ad' T' q.2.1 qn.2.1 ∧ v = lkv ad' (thd q.2.1 qn.2.1)
theorem PB.block {v : Value} (h : q2.2.2.1 = 0 → PB K V N 0 (d + 1) (gob K N d q) q2 T T2 ad ad2 L1 L2 f2 v) (hg : (gob K N d q).2.2.1 = 0) (h0 : (gpa K N 125 q2).2.2.1 = 0) (hs : ∀ b ∈ L, b ∈ L1) (hE : Ext L2 f2 L3 f3) (hO : OF 5 [] L2 f2 f3) : PB K V N 2 d q (gpa K N 125 q2) T T2 ad ad2 L L3 f3 v := by
  obtain ⟨h1, h2, h3, h4⟩ := h (gpa_ok h0).1
  rw [gob_nd] at h2 h3 h4
  unfold PB
  rw [gpa_nd]
  exact ⟨EvT.block (s := (q, T)) (r := (q2, T2)) hg h1, h2, h3.mo hs hE hO (by simp), h4⟩
theorem PB.mo {m : Nat} {v : Value} (h : PB K V N m d q q2 T T2 ad ad2 L1 L2 f2 v) (hs : ∀ b ∈ L, b ∈ L1) (hE : Ext L2 f2 L3 f3) (hO : OF 5 [] L2 f2 f3) : PB K V N m d q q2 T T2 ad ad2 L L3 f3 v := ⟨h.1, h.2.1, h.2.2.1.mo hs hE hO (by simp), h.2.2.2⟩
/-- the steps of a row, so far -/
noncomputable def LPk (K V : Nat → Int32) (N : Nat → Nat) (d : Nat) (q q1 : SG) (T T1 : TT) (ad ad1 : Nat → Nat) (la1 : Nat) (L L1 : List Nat) (f1 : Nat → va_E) (fi la : Value) : Prop := (∀ w : SGT, EvT K V N 0 d la1 (q1, T1) w → EvT K V N 0 d 0 (q, T) w) ∧ (∀ j : Nat, j < q.2.1 → ad1 j = ad j) ∧ NTc K V N L L1 f1 ad1 T1 q.2.1 q1.2.1 ∧ fi = lkv ad1 (thd q.2.1 q1.2.1) ∧ la = lkv ad1 la1 ∧ ((la1 = 0 ∧ q1.2.1 = q.2.1) ∨ ∃ k0 : Nat, la1 = k0 + 1 ∧ q.2.1 ≤ k0 ∧ k0 < q1.2.1)
theorem thd_e {a : Nat} : thd a a = 0 := if_pos rfl
theorem LPk.st : LPk K V N d q q T T ad ad 0 L L f .null .null := ⟨fun _ h => h, fun _ _ => rfl, NTc.nil, by rw [thd_e]; rfl, rfl, Or.inl ⟨rfl, rfl⟩⟩
theorem lkv_r {b x : Nat} (h : (Value.ref b) = lkv ad x) : ¬ x = 0 ∧ b = ad (x - 1) := by
  unfold lkv at h
  by_cases e : x = 0
  · rw [if_pos e] at h; cases h
  · rw [if_neg e] at h; injection h with h; exact ⟨e, h⟩
theorem LPk.fr {la1 b : Nat} {fi : Value} (h : LPk K V N d q q1 T T1 ad ad1 la1 L L1 f1 fi (.ref b)) : b ∉ L := by
  obtain ⟨-, -, h3, -, h5, h6⟩ := h
  obtain ⟨e1, e2⟩ := lkv_r h5
  rcases h6 with ⟨g, -⟩ | ⟨k0, g1, g2, g3⟩
  · exact absurd g e1
  · rw [e2, show la1 - 1 = k0 by omega]
    exact (h3.1 k0 g2 g3).1
theorem PB.r {b : Nat} (h : PB K V N 1 d q q2 T T2 ad ad2 L1 L2 f2 (.ref b)) (h0 : q2.2.2.1 = 0) : q.2.1 < q2.2.1 ∧ b = ad2 q.2.1 := by
  obtain ⟨h1, -, -, h4⟩ := h
  have := (h1.nd).2.1 rfl h0
  have g : q.2.1 < q2.2.1 := this
  rw [thd_1 g] at h4
  exact ⟨g, (lkv_r h4).2⟩
theorem LPk.e {la1 : Nat} {fi la : Value} (h : LPk K V N d q q1 T T1 ad ad1 la1 L L1 f1 fi la) (hn : ¬ (q1.2.2.1 = 0 ∧ 1 ≤ K q1.1 ∧ K q1.1 ≤ 12)) : PB K V N 0 d q q1 T T1 ad ad1 L L1 f1 fi := ⟨h.1 _ (EvT.stop (s := (q1, T1)) hn), h.2.1, h.2.2.1, h.2.2.2.1⟩
/-- blocks of the step k at o -/
noncomputable def PUb (K V : Nat → Int32) (N : Nat → Nat) (w : Int32) (d k o : Nat) (q qn : SG) (T T' : TT) (ad ad' : Nat → Nat) (L L' : List Nat) (f' : Nat → va_E) : Prop := BUT K V N w d k (q, T) (qn, T') ∧ (∀ j : Nat, j < k + 1 → ad' j = ad j) ∧ NTc K V N L L' f' ad' T' (k + 1) qn.2.1 ∧ (k < qn.2.1 ∧ T' 0 k = T 0 k ∧ T' 3 k = T 3 k) ∧ rd f' o 5 = lkv ad' (T' 1 k) ∧ rd f' o 6 = lkv ad' (T' 2 k) ∧ T' 1 k ≤ qn.2.1 ∧ T' 2 k ≤ qn.2.1
theorem PUb.one {w : Int32} {k : Nat} {qa : SG} {v : Value} (hp : PB K V N 2 d qa qn T T1 ad ad1 L1 L2 f2 v) (hn : qa.2.1 = k + 1) (hs : ∀ b ∈ L, b ∈ L1) (ho : o ∈ L1) (hE : Ext L2 f2 L3 f3) (hO : OF 5 [o] L2 f2 f3) (h5 : rd f3 o 5 = v) (h6 : rd f3 o 6 = .null) (hT2 : T 2 k = 0) (hqk : q.2.1 = k + 1) (hb : EvT K V N 2 d 0 (qa, T) (qn, T1) → BUT K V N w d k (q, T) (tl 1 k q.2.1 (qn, T1))) : PUb K V N w d k o q qn T (tset T1 1 k (thd (k + 1) qn.2.1)) ad ad1 L L3 f3 := by
  obtain ⟨h1, h2, h3, h4⟩ := hp
  have hm : qa.2.1 ≤ qn.2.1 := h1.nd.1
  rw [hn] at h2 h3 h4 hm
  have tk : ∀ i : Nat, T1 i k = T i k := fun i => h1.tk i k (by show k < qa.2.1; omega) (by omega)
  refine ⟨by have h9 := hb h1; rw [hqk] at h9; exact h9, h2, ⟨fun j g1 g2 => ?_, h3.2⟩, ⟨by omega, by rw [tset_ne (by omega), tk], by rw [tset_ne (by omega), tk]⟩, ?_, ?_, ?_, ?_⟩
  · have g := h3.1 j g1 g2
    refine ⟨fun m => g.1 (hs _ m), g.2.go g2 hE (hO _ g.2.1.1.1 g.2.1.1.2 (fun m => g.1 (by rw [List.mem_singleton.mp m]; exact ho))) (fun _ _ => rfl) (fun i => tset_ne (by omega)) (Nat.le_refl _)⟩
  · rw [tset_at, h5, h4]
  · rw [tset_ne (by omega), tk, hT2, h6]; rfl
  · rw [tset_at]; exact thd_le hm
  · rw [tset_ne (by omega), tk, hT2]; omega
theorem PUb.two {w c : Int32} {k : Nat} {qa v1 : SG} {x1 x2 : Value} {L5 : List Nat} {f5 : Nat → va_E} (h1 : v1.2.2.1 = 0 → PB K V N 2 d qa v1 T T1 ad ad1 L1 L2 f2 x1) (hp2 : PB K V N 2 d (gpa K N c v1) qn (tset T1 1 k (thd (k + 1) v1.2.1)) T2 ad1 ad2 L3 L4 f4 x2) (hq : qn.2.2.1 = 0) (hn : qa.2.1 = k + 1) (hs : ∀ b ∈ L, b ∈ L1) (ho : o ∈ L1) (hE : Ext L2 f2 L3 f3) (hO : OF 5 [o] L2 f2 f3) (hE4 : Ext L3 f3 L4 f4) (hO4 : OF 5 [] L3 f3 f4) (hE5 : Ext L4 f4 L5 f5) (hO5 : OF 5 [o] L4 f4 f5) (hs2 : ∀ b ∈ L1, b ∈ L2) (h5 : rd f5 o 5 = x1) (h6 : rd f5 o 6 = x2) (hqk : q.2.1 = k + 1) (hb : EvT K V N 2 d 0 (qa, T) (v1, T1) → EvT K V N 2 d 0 (gpa K N c v1, (tl 1 k q.2.1 (v1, T1)).2) (qn, T2) → BUT K V N w d k (q, T) (tl 2 k v1.2.1 (qn, T2))) : PUb K V N w d k o q qn T (tset T2 2 k (thd v1.2.1 qn.2.1)) ad ad2 L L5 f5 := by
  obtain ⟨b1, b2, b3, b4⟩ := hp2
  have hv0 : v1.2.2.1 = 0 := by
    by_cases e : (gpa K N c v1).2.2.1 = 0
    · exact (gpa_ok e).1
    · have := b1.one (EvT.fx2 (s := (gpa K N c v1, tset T1 1 k (thd (k + 1) v1.2.1))) e)
      rw [show qn = gpa K N c v1 from congrArg Prod.fst this] at hq
      exact absurd hq e
  obtain ⟨a1, a2, a3, a4⟩ := h1 hv0
  have hm : qa.2.1 ≤ v1.2.1 := a1.nd.1
  have hm2 : (gpa K N c v1).2.1 ≤ qn.2.1 := b1.nd.1
  rw [gpa_nd] at b2 b3 b4 hm2
  rw [hn] at a2 a3 a4 hm
  have tk : ∀ i : Nat, T1 i k = T i k := fun i => a1.tk i k (by show k < qa.2.1; omega) (by omega)
  have tk2 : ∀ i j : Nat, j < v1.2.1 → T2 i j = tset T1 1 k (thd (k + 1) v1.2.1) i j := fun i j hj => b1.tk i j (by show j < (gpa K N c v1).2.1; rw [gpa_nd]; exact hj) (by omega)
  have hL3 : ∀ b ∈ L1, b ∈ L3 := fun b hb => (hE _ (hs2 _ hb)).1
  have n1 : NTc K V N L1 L3 f3 ad1 (tset T1 1 k (thd (k + 1) v1.2.1)) (k + 1) v1.2.1 := by
    refine ⟨fun j g1 g2 => ⟨(a3.1 j g1 g2).1, ?_⟩, a3.2⟩
    have g := a3.1 j g1 g2
    exact g.2.go g2 hE (hO _ g.2.1.1.1 g.2.1.1.2 (fun m => g.1 (by rw [List.mem_singleton.mp m]; exact ho))) (fun _ _ => rfl) (fun i => tset_ne (by omega)) (Nat.le_refl _)
  have n2 := n1.cat b3 hL3 hE4 hO4 b2 tk2 hm2
  refine ⟨hb a1 (by rw [hqk]; exact b1), fun j hj => by rw [b2 j (by omega), a2 j hj], ⟨fun j g1 g2 => ?_, n2.2⟩, ⟨by omega, by rw [tset_ne (by omega), tk2 _ _ (by omega), tset_ne (by omega), tk], by rw [tset_ne (by omega), tk2 _ _ (by omega), tset_ne (by omega), tk]⟩, ?_, ?_, ?_, ?_⟩
  · have g := n2.1 j g1 g2
    refine ⟨fun m => g.1 (hs _ m), g.2.go g2 hE5 (hO5 _ g.2.1.1.1 g.2.1.1.2 (fun m => g.1 (by rw [List.mem_singleton.mp m]; exact ho))) (fun _ _ => rfl) (fun i => tset_ne (by omega)) (Nat.le_refl _)⟩
  · rw [tset_ne (by omega), tk2 _ _ (by omega), tset_at, h5, a4]
    exact (lkv_ag b2 (thd_le hm)).symm
  · rw [tset_at, h6, b4]
  · rw [tset_ne (by omega), tk2 _ _ (by omega), tset_at]
    have := thd_le hm
    omega
  · rw [tset_at]; exact thd_le hm2
/-- what the reader lays of a plain step -/
noncomputable def ctP (K V : Nat → Int32) (N : Nat → Nat) (w : Int32) (q : SG) (vt nu : Int32) : Prop := (w = 1 ∨ w = 5 → vt = V q.1 ∧ nu = V (gnu K V N 0 5 q).1) ∧ (w = 4 ∨ w = 7 → nu = V q.1) ∧ (w = 6 → vt = V q.1)
/-- and of a test -/
noncomputable def ctT (K V : Nat → Int32) (N : Nat → Nat) (p : Nat) (vt nu lo be : Int32) : Prop := lo = K p ∧ (K p = 17 ∨ K p = 18 → vt = V (N p) ∧ be = (if K (N (N p)) = 60 then 1 else 0) ∧ nu = V (N (N (N p)))) ∧ (¬ (K p = 17 ∨ K p = 18) → be = (if K (N p) = 60 then 1 else 0) ∧ nu = V (N (N p)))
theorem gpl_1 {w : Int32} {q : SG} (hw : w = 1 ∨ w = 5) (h : (gpl K V N w q).2.2.1 = 0) : (gnu K V N 0 5 q).1 = N q.1 := by
  rcases hw with rfl | rfl
  · exact (gnu_ok (gnu_ok (show (gnu K V N 1 20 (gnu K V N 0 5 q)).2.2.1 = 0 from h)).1).2.1
  · exact (gnu_ok (gnu_ok (show (gnu K V N 1 1000 (gnu K V N 0 5 q)).2.2.1 = 0 from h)).1).2.1
theorem ctC_pl {p : Nat} {q : SG} {vt nu lo be : Int32} (hq : q.1 = N p) (h8 : K p < 8) (h : (gpl K V N (K p) q).2.2.1 = 0) (hc : ctP K V N (K p) q vt nu) : ctC K V N p (.int vt) (.int nu) (.int lo) (.int be) := by
  obtain ⟨c1, c2, c3⟩ := hc
  rw [hq] at c1 c2 c3
  refine ⟨fun g => ?_, fun g => ?_, fun g => ?_, fun g => absurd h8 (by rw [g]; decide)⟩
  · obtain ⟨e1, e2⟩ := c1 g
    rw [gpl_1 g h, hq] at e2
    rw [e1, e2]
    exact ⟨rfl, rfl⟩
  · rcases g with g | g | g | g
    · rw [c2 (Or.inl g)]
    · rw [c2 (Or.inr g)]
    · exact absurd h8 (by rw [g]; decide)
    · exact absurd h8 (by rw [g]; decide)
  · rw [c3 g]
theorem ctC_bu {p : Nat} {q : SG} {vt nu lo be : Int32} (hq : q.1 = N p) (h8 : ¬ K p < 8) (hc : K p = 8 ∨ K p = 9 → nu = V q.1) (ht : K p = 10 → ctT K V N q.1 vt nu lo be) : ctC K V N p (.int vt) (.int nu) (.int lo) (.int be) := by
  have ne : ∀ k : Int32, k < 8 → ¬ K p = k := fun k hk e => h8 (by rw [e]; exact hk)
  rw [hq] at hc ht
  refine ⟨fun g => ?_, fun g => ?_, fun g => absurd g (ne 6 (by decide)), fun g => ?_⟩
  · rcases g with g | g
    · exact absurd g (ne 1 (by decide))
    · exact absurd g (ne 5 (by decide))
  · rcases g with g | g | g | g
    · exact absurd g (ne 4 (by decide))
    · exact absurd g (ne 7 (by decide))
    · rw [hc (Or.inl g)]
    · rw [hc (Or.inr g)]
  · obtain ⟨t1, t2, t3⟩ := ht g
    refine ⟨by rw [t1], fun e => ?_, fun e => ?_⟩
    · obtain ⟨s1, s2, s3⟩ := t2 e
      rw [s1, s2, s3]
      exact ⟨rfl, rfl, rfl⟩
    · obtain ⟨s1, s2⟩ := t3 e
      rw [s1, s2]
      exact ⟨rfl, rfl⟩
/-- the address of the step that is made -/
noncomputable def adn (ad : Nat → Nat) (k a : Nat) : Nat → Nat := fun j => if j = k then a else ad j
theorem adn_at {k : Nat} : adn ad k a k = a := if_pos rfl
theorem adn_ne {k j : Nat} (h : ¬ j = k) : adn ad k a j = ad j := if_neg h
theorem PB.plain {vt nu lo be : Int32} (hn : ¬ 300 ≤ q.2.1) (h8 : K q.1 < 8) (ha : a ∉ L) (hm : a ∈ L1 ∧ sh (f1 a) = (0, 5, 0)) (h0 : rd f1 a 0 = .int (K q.1)) (h1 : rd f1 a 1 = .int vt) (h2 : rd f1 a 2 = .int nu) (h3 : rd f1 a 3 = .int lo) (h4 : rd f1 a 4 = .int be) (hc : ctP K V N (K q.1) (gad N q) vt nu) (h5 : rd f1 a 5 = .null) (h6 : rd f1 a 6 = .null) (h7 : rd f1 a 7 = .null) (hq : (gpa K N 59 (gpl K V N (K q.1) (gad N q))).2.2.1 = 0) : PB K V N 1 d q (gpa K N 59 (gpl K V N (K q.1) (gad N q))) T (tnew T q.2.1 q.1) ad (adn ad q.2.1 a) L L1 f1 (.ref a) := by
  have en : (gpa K N 59 (gpl K V N (K q.1) (gad N q))).2.1 = q.2.1 + 1 := by rw [gpa_nd, gpl_nd]; rfl
  refine ⟨EvT.plain (s := (q, T)) hn h8, fun j hj => adn_ne (by omega), ?_, ?_⟩
  · rw [en]
    refine ⟨fun j g1 g2 => ?_, fun i j g1 g2 g3 g4 _ => by omega⟩
    obtain rfl : j = q.2.1 := by omega
    unfold nT
    rw [adn_at, tnew_at, tnew_at, tnew_at, tnew_at, if_pos rfl, if_neg (by decide), if_neg (by decide), if_neg (by decide), h0, h1, h2, h3, h4, h5, h6, h7]
    exact ⟨ha, ⟨hm, rfl, ctC_pl rfl h8 (gpa_ok hq).1 hc, rfl, rfl, rfl⟩, by omega, by omega, by omega⟩
  · rw [en, thd_1 (by omega)]
    show _ = Value.ref (adn ad q.2.1 a q.2.1)
    rw [adn_at]
theorem PB.built {vt nu lo be : Int32} (hn : ¬ 300 ≤ q.2.1) (h8 : ¬ K q.1 < 8) (ha : a ∉ L) (haL : a ∈ L1) (hs : ∀ b ∈ L, b ∈ L1) (hm : a ∈ L2 ∧ sh (f2 a) = (0, 5, 0)) (h0 : rd f2 a 0 = .int (K q.1)) (h1 : rd f2 a 1 = .int vt) (h2 : rd f2 a 2 = .int nu) (h3 : rd f2 a 3 = .int lo) (h4 : rd f2 a 4 = .int be) (hc : K q.1 = 8 ∨ K q.1 = 9 → nu = V (gad N q).1) (ht : K q.1 = 10 → ctT K V N (gad N q).1 vt nu lo be) (h7 : rd f2 a 7 = .null) (hp : PUb K V N (K q.1) d q.2.1 a (gad N q) qn (tnew T q.2.1 q.1) T2 (adn ad q.2.1 a) ad2 L1 L2 f2) : PB K V N 1 d q qn T T2 ad ad2 L L2 f2 (.ref a) := by
  obtain ⟨p1, p2, p3, ⟨p4, p5, p6⟩, p7, p8, p9, p10⟩ := hp
  have e0 : T2 0 q.2.1 = q.1 := by rw [p5, tnew_at, if_pos rfl]
  have e3 : T2 3 q.2.1 = 0 := by rw [p6, tnew_at, if_neg (by decide)]
  have ea : ad2 q.2.1 = a := by rw [p2 _ (by omega), adn_at]
  refine ⟨EvT.built (s := (q, T)) (r := (qn, T2)) hn h8 p1, fun j hj => by rw [p2 j (by omega), adn_ne (by omega)], ⟨fun j g1 g2 => ?_, fun i j g1 g2 g3 g4 e => ?_⟩, ?_⟩
  · by_cases c : j = q.2.1
    · subst c
      refine ⟨by rw [ea]; exact ha, ?_⟩
      unfold nT
      rw [e0, e3, ea, h0, h1, h2, h3, h4, p7, p8, h7]
      exact ⟨⟨hm, rfl, ctC_bu rfl h8 hc ht, rfl, rfl, rfl⟩, p9, p10, by omega⟩
    · have g := p3.1 j (by omega) g2
      exact ⟨fun m => g.1 (hs _ m), g.2⟩
  · by_cases c : i = q.2.1
    · by_cases c2 : j = q.2.1
      · omega
      · rw [c, ea] at e
        exact absurd (e ▸ haL) (p3.1 j (by omega) g4).1
    · by_cases c2 : j = q.2.1
      · rw [c2, ea] at e
        exact absurd (e.symm ▸ haL) (p3.1 i (by omega) g2).1
      · exact p3.2 i j (by omega) g2 (by omega) g4 e
  · rw [thd_1 p4]
    show _ = Value.ref (ad2 q.2.1)
    rw [ea]
end NTS
theorem NTc.tr {K V : Nat → Int32} {N : Nat → Nat} {L0 L : List Nat} {f : Nat → va_E} {ad : Nat → Nat} {T : TT} {n : Nat} (h : NTc K V N L0 L f ad T 0 n) : TRc K V N L f ad T n := fun j hj => (h.1 j (Nat.zero_le _) hj).2.1
