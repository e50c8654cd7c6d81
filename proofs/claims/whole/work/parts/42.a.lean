/-! what leads to a shade: rows of dips in thought, on the seven rows that they use -/
noncomputable abbrev M4 (m : Int32) : Prop := m = 1 ∨ m = 2 ∨ m = 4 ∨ m = 8
noncomputable abbrev mvP (g st w lo fa : Nat → Int32) (c v : Nat) (m : Int32) : Int32 := mvV (g v) (st v) (w c) (lo c) (fa c) m
noncomputable def ldR : Nat → (Nat → Int32) → (Nat → Int32) → (Nat → Int32) → (Nat → Int32) → (Nat → Int32) → (Nat → Int32) → (Nat → Int32) → Nat → Int32 → Int32 → Prop
  | 0, _, _, _, _, w, lo, fa, c, lw, hg => lo c = 0 ∧ lw ≤ fa c / w c ∧ fa c / w c ≤ hg
  | k + 1, g, f, mi, st, w, lo, fa, c, lw, hg => ∃ (v : Nat) (m : Int32), v < 6 ∧ M4 m ∧ ¬ st v = 2 ∧ ¬ mvP g st w lo fa c v m = 0 ∧ ldR k (upd g v (g v - mvP g st w lo fa c v m)) (upd f v (skF (f v) m)) (upd mi v (mi v + m)) (upd st v (skS (mi v) (f v) (st v) m)) w (upd lo c 0) (upd fa c (fa c + ((lo c + mvP g st w lo fa c v m) - (lo c + mvP g st w lo fa c v m) / 8))) c lw hg
/-- the dip of vat v, m minutes, leads there with k more -/
noncomputable def GDr (k : Nat) (g f mi st w lo fa : Nat → Int32) (c : Nat) (lw hg : Int32) (v : Nat) (m : Int32) : Prop := ¬ st v = 2 ∧ ¬ mvP g st w lo fa c v m = 0 ∧ ldR k (upd g v (g v - mvP g st w lo fa c v m)) (upd f v (skF (f v) m)) (upd mi v (mi v + m)) (upd st v (skS (mi v) (f v) (st v) m)) w (upd lo c 0) (upd fa c (fa c + ((lo c + mvP g st w lo fa c v m) - (lo c + mvP g st w lo fa c v m) / 8))) c lw hg
section LDS
variable {g f mi st w lo fa : Nat → Int32} {c v k q : Nat} {lw hg m mx z : Int32}
theorem ldR_s : ldR (k + 1) g f mi st w lo fa c lw hg ↔ ∃ (v : Nat) (m : Int32), v < 6 ∧ M4 m ∧ GDr k g f mi st w lo fa c lw hg v m := Iff.rfl
theorem ldR_z : ldR 0 g f mi st w lo fa c lw hg ↔ (lo c = 0 ∧ lw ≤ fa c / w c ∧ fa c / w c ≤ hg) := Iff.rfl
/-- none of the vats below q leads there -/
noncomputable def NGv (k : Nat) (g f mi st w lo fa : Nat → Int32) (c : Nat) (lw hg : Int32) (q : Nat) : Prop := ∀ (v : Nat) (m : Int32), v < q → M4 m → ¬ GDr k g f mi st w lo fa c lw hg v m
noncomputable def NGm (k : Nat) (g f mi st w lo fa : Nat → Int32) (c : Nat) (lw hg : Int32) (q : Nat) (mx : Int32) : Prop := ∀ m : Int32, M4 m → m.toInt < mx.toInt → ¬ GDr k g f mi st w lo fa c lw hg q m
theorem NGv.o : NGv k g f mi st w lo fa c lw hg 0 := fun v m h => absurd h (Nat.not_lt_zero _)
theorem NGm.o : NGm k g f mi st w lo fa c lw hg q 1 := fun m h h2 => by
  rcases h with rfl | rfl | rfl | rfl <;> exact absurd h2 (by decide)
theorem Dbl.m4 {n : Nat} (h : Dbl mx n) (h8 : ¬ 8 < mx) : M4 mx := by
  rcases h with ⟨rfl, -⟩ | ⟨rfl, -⟩ | ⟨rfl, -⟩ | ⟨rfl, -⟩ | ⟨rfl, -⟩
  · exact Or.inl rfl
  · exact Or.inr (Or.inl rfl)
  · exact Or.inr (Or.inr (Or.inl rfl))
  · exact Or.inr (Or.inr (Or.inr rfl))
  · exact absurd (by decide) h8
theorem NGm.nx {n : Nat} (h : NGm k g f mi st w lo fa c lw hg q mx) (hd : Dbl mx n) (h8 : ¬ 8 < mx) (hn : ¬ GDr k g f mi st w lo fa c lw hg q mx) (hz : z = mx * 2) : NGm k g f mi st w lo fa c lw hg q z := fun m hm hl => by
  subst hz
  rcases hd.m4 h8 with rfl | rfl | rfl | rfl <;> rcases hm with rfl | rfl | rfl | rfl <;> first | exact hn | exact h _ (by decide) (by decide) | exact absurd hl (by decide)
theorem NGm.e {n : Nat} (h : NGm k g f mi st w lo fa c lw hg q mx) (hd : Dbl mx n) (h8 : 8 < mx) (hv : NGv k g f mi st w lo fa c lw hg q) : NGv k g f mi st w lo fa c lw hg (q + 1) := fun v m hq hm => by
  by_cases e : v = q
  · subst e
    refine h m hm ?_
    rw [Int32.lt_iff_toInt_lt] at h8
    have c8 : (8 : Int32).toInt = 8 := by decide
    rcases hm with rfl | rfl | rfl | rfl
    · have : (1 : Int32).toInt = 1 := by decide
      omega
    · have : (2 : Int32).toInt = 2 := by decide
      omega
    · have : (4 : Int32).toInt = 4 := by decide
      omega
    · omega
  · exact hv v m (by omega) hm
theorem NGv.e (h : NGv k g f mi st w lo fa c lw hg 6) : ¬ ldR (k + 1) g f mi st w lo fa c lw hg := fun h9 => by
  obtain ⟨v, m, h1, h2, h3⟩ := ldR_s.mp h9
  exact h v m h1 h2 h3
/-- what may be said of the numbers -/
noncomputable def IVp (g w lo fa : Nat → Int32) (c : Nat) : Prop := (∀ k : Nat, k < 6 → 0 ≤ (g k).toInt ∧ (g k).toInt ≤ 1000000) ∧ (1 ≤ (w c).toInt ∧ (w c).toInt ≤ 50) ∧ 0 ≤ (lo c).toInt ∧ 0 ≤ (fa c).toInt ∧ (lo c).toInt + (fa c).toInt ≤ 200 * (w c).toInt
theorem m4_i (h : M4 m) : 1 ≤ m.toInt ∧ m.toInt ≤ 20 := by
  rcases h with rfl | rfl | rfl | rfl <;> decide
theorem IVp.mv (h : IVp g w lo fa c) (hv : v < 6) (hm : M4 m) : 0 ≤ (mvP g st w lo fa c v m).toInt ∧ (mvP g st w lo fa c v m).toInt ≤ (g v).toInt ∧ (mvP g st w lo fa c v m).toInt ≤ 200 * (w c).toInt - (lo c).toInt - (fa c).toInt := by
  obtain ⟨h1, h2, h3, h4, h5⟩ := h
  have h9 := mv_i (st := st v) (h1 v hv) h2 (m4_i hm) h3 h4 h5
  exact ⟨h9.1, h9.2.1, by have h8 := h9.2.2; unfold mvP; omega⟩
theorem IVp.th (h : IVp g w lo fa c) (hv : v < 6) (hm : M4 m) : IVp (upd g v (g v - mvP g st w lo fa c v m)) w (upd lo c 0) (upd fa c (fa c + ((lo c + mvP g st w lo fa c v m) - (lo c + mvP g st w lo fa c v m) / 8))) c ∧ (fa c).toInt ≤ (fa c + ((lo c + mvP g st w lo fa c v m) - (lo c + mvP g st w lo fa c v m) / 8)).toInt := by
  have hn := h.mv (st := st) hv hm
  obtain ⟨h1, h2, h3, h4, h5⟩ := h
  have e8 : (8 : Int32).toInt = 8 := by decide
  have el : (lo c + mvP g st w lo fa c v m).toInt = (lo c).toInt + (mvP g st w lo fa c v m).toInt := ad_i (by omega) (by omega)
  have ed : ((lo c + mvP g st w lo fa c v m) / 8).toInt = ((lo c).toInt + (mvP g st w lo fa c v m).toInt) / 8 := by
    rw [dv_i (by omega) (by omega), el, e8]
  have es : ((lo c + mvP g st w lo fa c v m) - (lo c + mvP g st w lo fa c v m) / 8).toInt = (lo c).toInt + (mvP g st w lo fa c v m).toInt - ((lo c).toInt + (mvP g st w lo fa c v m).toInt) / 8 := by
    rw [su_i (by omega) (by omega), el, ed]
  have ea : (fa c + ((lo c + mvP g st w lo fa c v m) - (lo c + mvP g st w lo fa c v m) / 8)).toInt = (fa c).toInt + ((lo c).toInt + (mvP g st w lo fa c v m).toInt - ((lo c).toInt + (mvP g st w lo fa c v m).toInt) / 8) := by
    rw [ad_i (by omega) (by omega), es]
  have u1 : upd lo c 0 c = 0 := if_pos rfl
  have u2 : upd fa c (fa c + ((lo c + mvP g st w lo fa c v m) - (lo c + mvP g st w lo fa c v m) / 8)) c = fa c + ((lo c + mvP g st w lo fa c v m) - (lo c + mvP g st w lo fa c v m) / 8) := if_pos rfl
  have z0 : (0 : Int32).toInt = 0 := by decide
  refine ⟨⟨fun j hj => ?_, h2, ?_, ?_, ?_⟩, by omega⟩
  · by_cases e : j = v
    · subst e
      rw [show upd g j (g j - mvP g st w lo fa c j m) j = g j - mvP g st w lo fa c j m from if_pos rfl, su_i (by have := h1 j hj; omega) (by have := h1 j hj; omega)]
      have := h1 j hj
      omega
    · rw [show upd g v (g v - mvP g st w lo fa c v m) j = g j from if_neg e]
      exact h1 j hj
  · rw [u1]; omega
  · rw [u2]; omega
  · rw [u1, u2]; omega
/-- the shade never falls, so what leads there is not above it -/
theorem sh_mono {x y d : Int32} (hd : 1 ≤ d.toInt) (hx : 0 ≤ x.toInt) (h : x.toInt ≤ y.toInt) : (x / d).toInt ≤ (y / d).toInt := by
  rw [dv_i hx (by omega), dv_i (by omega) (by omega)]
  exact Int.ediv_le_ediv (by omega) h
theorem ldR_hg : ∀ (k : Nat) (g f mi st w lo fa : Nat → Int32) (c : Nat), IVp g w lo fa c → ldR k g f mi st w lo fa c lw hg → (fa c / w c).toInt ≤ hg.toInt := by
  intro k
  induction k with
  | zero => intro g f mi st w lo fa c _ h; exact Int32.le_iff_toInt_le.mp (ldR_z.mp h).2.2
  | succ k ih =>
    intro g f mi st w lo fa c hi h
    obtain ⟨v, m, h1, h2, -, -, h5⟩ := ldR_s.mp h
    obtain ⟨i1, i2⟩ := hi.th (st := st) h1 h2
    have := ih _ _ _ _ _ _ _ _ i1 h5
    rw [show upd fa c (fa c + ((lo c + mvP g st w lo fa c v m) - (lo c + mvP g st w lo fa c v m) / 8)) c = fa c + ((lo c + mvP g st w lo fa c v m) - (lo c + mvP g st w lo fa c v m) / 8) from if_pos rfl] at this
    exact Int.le_trans (sh_mono hi.2.1.1 hi.2.2.2.1 i2) this
/-- plan: what it answers -/
noncomputable def plS (ck lw hg mo : Int32) (s : AS) (o : OP) : Prop := (¬ inC s ck ∧ o = (1, 0, s)) ∨ (inC s ck ∧ ((¬ (0 ≤ mo ∧ mo ≤ 3 ∧ 0 ≤ lw ∧ lw ≤ hg) ∧ o = (2, 0, s)) ∨ ((0 ≤ mo ∧ mo ≤ 3 ∧ 0 ≤ lw ∧ lw ≤ hg) ∧ ((¬ s.2 16 ck.toNatClampNeg = -1 ∧ o = (0, -1, s)) ∨ (s.2 16 ck.toNatClampNeg = -1 ∧ ((∃ n : Nat, (n : Int) ≤ mo.toInt ∧ ldR n (s.2 4) (s.2 5) (s.2 6) (s.2 7) (s.2 13) (s.2 14) (s.2 15) ck.toNatClampNeg lw hg ∧ (∀ k : Nat, k < n → ¬ ldR k (s.2 4) (s.2 5) (s.2 6) (s.2 7) (s.2 13) (s.2 14) (s.2 15) ck.toNatClampNeg lw hg) ∧ o = (0, nI n, s)) ∨ ((∀ n : Nat, (n : Int) ≤ mo.toInt → ¬ ldR n (s.2 4) (s.2 5) (s.2 6) (s.2 7) (s.2 13) (s.2 14) (s.2 15) ck.toNatClampNeg lw hg) ∧ o = (0, -1, s))))))))
theorem plS.one {ck mo : Int32} {s : AS} {o o2 : OP} (h : plS ck lw hg mo s o) (h2 : plS ck lw hg mo s o2) : o = o2 := by
  rcases h with ⟨a, b⟩ | ⟨a, h⟩
  · rcases h2 with ⟨a2, b2⟩ | ⟨a2, -⟩
    · rw [b, b2]
    · exact absurd a2 a
  · rcases h2 with ⟨a2, -⟩ | ⟨-, h2⟩
    · exact absurd a a2
    · rcases h with ⟨d, b⟩ | ⟨d, h⟩
      · rcases h2 with ⟨-, b2⟩ | ⟨d2, -⟩
        · rw [b, b2]
        · exact absurd d2 d
      · rcases h2 with ⟨d2, -⟩ | ⟨-, h2⟩
        · exact absurd d d2
        · rcases h with ⟨e, b⟩ | ⟨e, h⟩
          · rcases h2 with ⟨-, b2⟩ | ⟨e2, -⟩
            · rw [b, b2]
            · exact absurd e2 e
          · rcases h2 with ⟨e2, -⟩ | ⟨-, h2⟩
            · exact absurd e e2
            · rcases h with ⟨n, n1, n2, n3, b⟩ | ⟨n1, b⟩
              · rcases h2 with ⟨k, k1, k2, k3, b2⟩ | ⟨k1, -⟩
                · have : n = k := by
                    rcases Nat.lt_trichotomy n k with q | q | q
                    · exact absurd n2 (k3 n q)
                    · exact q
                    · exact absurd k2 (n3 k q)
                  subst this
                  rw [b, b2]
                · exact absurd n2 (k1 n n1)
              · rcases h2 with ⟨k, k1, k2, -, -⟩ | ⟨-, b2⟩
                · exact absurd k2 (n1 k k1)
                · rw [b, b2]
end LDS
