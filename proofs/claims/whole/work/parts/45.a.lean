/-! what is kept, both sides, at the law's level (the refutation of p15) -/
section PLK
variable {g : Nat → Nat} {L L2 : List Nat} {f f2 : Nat → va_E} {x0 wk vs cl ru pl : Nat} {va : Nat → Nat} {s : AS} {cs : List (Nat × Nat)} {r : Option Value} {ck lw hg mo kq : Int32} {P1 P2 Q1 Q2 : Prop} {fo : Int64}
theorem st_frK (h0 : SR g L f (x0, wk, vs, cl, ru, va) s) (hE : Ext L f L2 f2) (hcs : ∀ c ∈ cs, okcl c ∧ c ≠ (200, 30)) (hP : ¬ P2) (hQ : ¬ Q1) (h : (∃ v : Int32, r = some (.int 0) ∧ ((∃ z : Int32, some (Value.int v) = some (.int z)) ∧ Fr cs L f f2 ∧ (((∃ v2 : Int32, plS ck lw hg mo s (0, v2, s) ∧ some (Value.int v) = some (.int v2)) ∧ SR g L2 f2 (x0, wk, vs, cl, ru, va) s) ∧ (∃ k5 : Int32, rd f2 pl 5 = .int k5 ∧ (¬ s.2 16 ck.toNatClampNeg = -1 → k5 = kq) ∧ (s.2 16 ck.toNatClampNeg = -1 → (some (Value.int v) = some (.int (-1)) ∧ k5 = 0) ∨ some (Value.int v) = some (.int k5))))) ∧ fo = v.toInt64) ∨ (r = some (.int 1) ∧ ((P1 ∧ plS ck lw hg mo s (1, 0, s)) ∨ (P2 ∧ plS ck lw hg mo s (2, 0, s))) ∧ Fr [] L f f2) ∨ (r = some (.int 2) ∧ ((Q1 ∧ plS ck lw hg mo s (1, 0, s)) ∨ (Q2 ∧ plS ck lw hg mo s (2, 0, s))) ∧ Fr [] L f f2)) : SR g L2 f2 (x0, wk, vs, cl, ru, va) s ∧ (∃ cs : List (Nat × Nat), (∀ c ∈ cs, okcl c ∧ c ≠ (200, 30)) ∧ Fr cs L f f2) ∧ ∃ o : OP, plS ck lw hg mo s o ∧ r = some (.int o.1) ∧ (o.1 = 0 → fo = o.2.1.toInt64) ∧ (o.1 = 0 → ∃ k5 : Int32, rd f2 pl 5 = .int k5 ∧ (¬ s.2 16 ck.toNatClampNeg = -1 → k5 = kq) ∧ (s.2 16 ck.toNatClampNeg = -1 → (o.2.1 = -1 ∧ k5 = 0) ∨ o.2.1 = k5)) := by
  rcases h with ⟨v, h1, ⟨-, hF, ⟨⟨v2, h3, h4⟩, h5⟩, k5, h7, h8, h9⟩, h6⟩ | ⟨h1, ⟨-, h2⟩ | ⟨h2, -⟩, hF⟩ | ⟨h1, ⟨h2, -⟩ | ⟨-, h2⟩, hF⟩
  · cases h4
    refine ⟨h5, ⟨cs, hcs, hF⟩, _, h3, h1, fun _ => h6, fun _ => ⟨k5, h7, h8, fun e => ?_⟩⟩
    rcases h9 e with ⟨q1, q2⟩ | q1
    · cases q1
      exact Or.inl ⟨rfl, q2⟩
    · cases q1
      exact Or.inr rfl
  · exact ⟨h0.still hE hF (by decide), ⟨[], by decide, hF⟩, _, h2, h1, fun h => absurd (show (1 : Int32) = 0 from h) (by decide), fun h => absurd (show (1 : Int32) = 0 from h) (by decide)⟩
  · exact absurd h2 hP
  · exact absurd h2 hQ
  · exact ⟨h0.still hE hF (by decide), ⟨[], by decide, hF⟩, _, h2, h1, fun h => absurd (show (2 : Int32) = 0 from h) (by decide), fun h => absurd (show (2 : Int32) = 0 from h) (by decide)⟩
theorem st_z0 {z : Int32} {A : Int32 → Prop} {P Q R : Prop} (h : (∃ v : Int32, some (Value.int z) = some (.int 0) ∧ A v) ∨ (some (Value.int z) = some (.int 1) ∧ (P ∧ ¬ Q) ∧ R)) (hq : Q) : z = 0 := by
  rcases h with ⟨-, h, -⟩ | ⟨-, h, -⟩
  · cases h; rfl
  · exact absurd hq h.2
theorem pl_kp {zb : Int32} {i i2 : Nat → Int32} {a a2 : Nat → Nat → Int32} {o8 o9 : OP} (hpl8 : plS ck lw hg mo (i, a) o8) (hk8 : o8.1 = 0 → ∃ k5 : Int32, rd f2 pl 5 = .int k5 ∧ (¬ a 16 ck.toNatClampNeg = -1 → k5 = kq) ∧ (a 16 ck.toNatClampNeg = -1 → (o8.2.1 = -1 ∧ k5 = 0) ∨ o8.2.1 = k5)) (hpl9 : plS ck lw hg mo (i, a) o9) (ho1 : o9.1 = 0 → some (Value.int zb) = some (.int o9.2.1)) (hk9 : some (Value.int zb) = some (.int (-1)) → i2 46 = 0) (h1 : ∀ j : Nat, j ≠ 0 → j ≠ 46 → i2 j = i j) (h2 : ∀ j : Nat, j < 36 → a2 j = a j) : (∀ j : Nat, j ≠ 0 → j ≠ 46 → i2 j = i j) ∧ (∀ j : Nat, j < 36 → a2 j = a j) ∧ ∃ o8 : OP, plS ck lw hg mo (i, a) o8 ∧ (o8.1 = 0 → (o8.2.1 = -1 → i2 46 = 0) ∧ ∃ k5 : Int32, rd f2 pl 5 = .int k5 ∧ (¬ a 16 ck.toNatClampNeg = -1 → k5 = kq) ∧ (a 16 ck.toNatClampNeg = -1 → (o8.2.1 = -1 ∧ k5 = 0) ∨ o8.2.1 = k5)) := by
  have e := hpl8.one hpl9
  subst e
  exact ⟨h1, h2, o8, hpl8, fun h => ⟨fun e => hk9 (by rw [ho1 h, e]), hk8 h⟩⟩
theorem sc_at {xs : Nat → Int32} {z y ii kk : Int32} {t k : Nat} (ez : z = xs y.toNatClampNeg) (ey : y = ii + kk) (hii : ii = nI (6 * t)) (hkk : kk = nI k) (hb : 6 * t + k < 4000) : z = xs (6 * t + k) := by
  rw [ez, ey, hii, hkk, nI_add, nI_clamp (by omega)]
theorem sc_0 {xs : Nat → Int32} {ii : Int32} {t : Nat} (hii : ii = nI (6 * t)) (hb : 6 * t < 4000) : xs ii.toNatClampNeg = xs (6 * t) := by
  rw [hii, nI_clamp (by omega)]
theorem sc_nl {ii z1 z2 : Int32} {t Ln : Nat} (hii : ii = nI (6 * t)) (e1 : z1 = nI Ln) (e2 : z2 = z1 - 6) (hL : Ln ≤ 3072) (ht : 6 * t + 6 ≤ Ln) : ¬ z2 < ii := fun h => by
  have h1 := lt_i h
  have e6 : (6 : Int32).toInt = 6 := by decide
  have e3 : z1.toInt = (Ln : Int) := by rw [e1]; exact nI_toInt (by omega)
  have e4 := sub_i e2 (by omega) (by omega)
  have e5 : ii.toInt = ((6 * t : Nat) : Int) := by rw [hii]; exact nI_toInt (by omega)
  omega
theorem nz_th {z1 z x : Int32} (h : z1 = z) (hz : z1 = x) (h1 : x = 1) (h0 : z = 0) : False := by
  rw [hz, h1, h0] at h
  exact absurd h (by decide)
theorem WT.k5n (hW : WT g L f) (ha : pl ∈ L ∧ sh (f pl) = (0, 1, 0)) : ∃ k : Int32, rd f pl 5 = .int k := by
  obtain ⟨fs, hf⟩ := sh_obj ha.2
  have ho := hW.2 pl ha.1
  rw [hf] at ho
  have hl : 5 < fs.length := by
    have h1 : fs.length = 9 := ho.1
    omega
  obtain ⟨z, hz⟩ := ho.2 5 tI fs[5] rfl (List.getElem?_eq_getElem hl)
  exact ⟨z, by simp [rd, hf, hl, hz]⟩
theorem cl_eq {o : OP} {zc zm v9 : Int32} {s9 : AS} (h1 : o = (0, v9, s9)) (h2 : some (Value.int zc) = some (.int v9)) (h3 : o.1 = 0 → some (Value.int zm) = some (.int o.2.1)) : zc = zm := by
  subst h1
  cases h2
  have h4 := h3 rfl
  cases h4
  rfl
end PLK
/-! the state along the script -/
section KST
variable {i i1 : Nat → Int32} {a a1 : Nat → Nat → Int32}
theorem c_00 : (0 : Int32).toNatClampNeg = 0 := by decide
theorem c_11 : (1 : Int32).toNatClampNeg = 1 := by decide
theorem k_ch (h4 : a 4 0 = 0) (hR : (∀ j : Nat, j ≠ 0 → i1 j = (chG 0 1000 (i, a)).2.2.1 j) ∧ a1 = (chG 0 1000 (i, a)).2.2.2) : i1 12 = i 12 ∧ i1 1 = i 1 ∧ a1 = va_up a 4 (upd (a 4) 0 1000) := by
  have e : chG 0 1000 (i, a) = (0, 1000, (va_up i 3 (i 3 + 1000), va_up a 4 (upd (a 4) 0 1000))) := by
    unfold chG
    rw [if_pos (by decide)]
    simp only [c_00, h4]
    rw [if_neg (by decide)]
    rfl
  rw [e] at hR
  exact ⟨hR.1 12 (by decide), hR.1 1 (by decide), hR.2⟩
theorem k_fd (h5 : a 5 0 = 0) (h7 : a 7 0 = 2) (hR : (∀ j : Nat, j ≠ 0 → i1 j = (fdS 0 4 (i, a)).2.2.1 j) ∧ a1 = (fdS 0 4 (i, a)).2.2.2) : i1 12 = i 12 ∧ i1 1 = i 1 ∧ a1 = va_up (va_up a 5 (upd (a 5) 0 4)) 7 (upd (a 7) 0 2) := by
  have e : fdS 0 4 (i, a) = (0, 2, (i, va_up (va_up a 5 (upd (a 5) 0 4)) 7 (upd (a 7) 0 2))) := by
    unfold fdS feA
    rw [if_pos (by decide), if_pos (by decide)]
    simp only [c_00, h5, h7]
    rfl
  rw [e] at hR
  exact ⟨hR.1 12 (by decide), hR.1 1 (by decide), hR.2⟩
theorem k_lm (h5 : a 5 0 = 4) (h7 : a 7 0 = 2) (hR : (∀ j : Nat, j ≠ 0 → i1 j = (lmS 0 (i, a)).2.2.1 j) ∧ a1 = (lmS 0 (i, a)).2.2.2) : i1 12 = i 12 ∧ i1 1 = i 1 ∧ a1 = va_up (va_up (va_up a 5 (upd (a 5) 0 2)) 6 (upd (a 6) 0 0)) 7 (upd (a 7) 0 1) := by
  have e : lmS 0 (i, a) = (0, 1, (i, va_up (va_up (va_up a 5 (upd (a 5) 0 2)) 6 (upd (a 6) 0 0)) 7 (upd (a 7) 0 1))) := by
    unfold lmS lmA liM
    rw [if_pos (by decide)]
    simp only [c_00, h5, h7]
    rfl
  rw [e] at hR
  exact ⟨hR.1 12 (by decide), hR.1 1 (by decide), hR.2⟩
theorem k_cl {n : Int32} (hn : i 12 = n) (h30 : ¬ n = 30) (hR : (∀ j : Nat, j ≠ 0 → i1 j = (clS 1 (i, a)).2.2.1 j) ∧ a1 = (clS 1 (i, a)).2.2.2) : i1 12 = n + 1 ∧ i1 1 = i 1 ∧ a1 = va_up a 13 (upd (a 13) n.toNatClampNeg 1) := by
  have e : clS 1 (i, a) = (0, n + 1 - 1, (va_up i 12 (n + 1), va_up a 13 (upd (a 13) n.toNatClampNeg 1))) := by
    unfold clS
    simp only [hn]
    rw [if_neg (fun h => h.elim h30 (fun h => h.elim (by decide) (by decide)))]
  rw [e] at hR
  exact ⟨hR.1 12 (by decide), hR.1 1 (by decide), hR.2⟩
theorem k_tr (h12 : i 12 = 2) (h1 : i 1 = 0) (h16 : a 16 1 = -1) (hR : (∀ j : Nat, j ≠ 0 → i1 j = (trS 1 2 (i, a)).2.2.1 j) ∧ a1 = (trS 1 2 (i, a)).2.2.2) : i1 12 = 2 ∧ a1 16 1 = 0 ∧ (∀ j : Nat, j ≠ 14 → j ≠ 15 → j ≠ 16 → a1 j = a j) ∧ a1 14 0 = a 14 0 ∧ a1 15 0 = a 15 0 ∧ a1 16 0 = a 16 0 := by
  have hc : inC (i, a) 1 := by
    show 0 ≤ (1 : Int32).toInt ∧ (1 : Int32).toInt < (i 12).toInt
    rw [h12]
    decide
  have e : (trS 1 2 (i, a)).2.2 = dyS (i, a) 1 := by
    unfold trS
    rw [if_pos hc, if_pos (by decide)]
    simp only [c_11]
    rw [if_neg (fun h => h h16), if_neg (by decide), if_neg (by decide)]
  rw [e] at hR
  obtain ⟨hR1, rfl⟩ := hR
  refine ⟨(hR1 12 (by decide)).trans h12, ?_, fun j n14 n15 n16 => ?_, ?_, ?_, ?_⟩
  · show upd (a 16) 1 (i 1 / 24) 1 = 0
    rw [h1]
    rfl
  · show va_up (va_up (va_up a 14 _) 15 _) 16 _ j = a j
    rw [va_up_ne _ _ n16, va_up_ne _ _ n15, va_up_ne _ _ n14]
  · rfl
  · rfl
  · rfl
/-- one dip of vat 0, one minute, leads to a shade of 4 -/
theorem k_pl (h12 : i 12 = 2) (h4 : a 4 0 = 1000) (h5 : a 5 0 = 2) (h7 : a 7 0 = 1) (h13 : a 13 0 = 1) (h14 : a 14 0 = 0) (h15 : a 15 0 = 0) (h16 : a 16 0 = -1) : plS 0 1 1000 1 (i, a) (0, nI 1, (i, a)) := by
  have hc : inC (i, a) 0 := by
    show 0 ≤ (0 : Int32).toInt ∧ (0 : Int32).toInt < (i 12).toInt
    rw [h12]
    decide
  have hm : mvP (a 4) (a 7) (a 13) (a 14) (a 15) 0 0 1 = 4 := by
    unfold mvP mvV
    rw [h4, h7, h13, h14, h15]
    decide
  refine Or.inr ⟨hc, Or.inr ⟨by decide, Or.inr ⟨by show a 16 (0 : Int32).toNatClampNeg = -1; rw [c_00]; exact h16, Or.inl ⟨1, by decide, ?_, ?_, rfl⟩⟩⟩⟩
  · show ldR 1 (a 4) (a 5) (a 6) (a 7) (a 13) (a 14) (a 15) (0 : Int32).toNatClampNeg 1 1000
    rw [c_00]
    refine ldR_s.mpr ⟨0, 1, by decide, Or.inl rfl, by rw [h7]; decide, by rw [hm]; decide, ?_⟩
    refine ldR_z.mpr ⟨upd_q, ?_, ?_⟩
    · rw [upd_q, hm, h14, h15, h13]; decide
    · rw [upd_q, hm, h14, h15, h13]; decide
  · intro k hk
    obtain rfl : k = 0 := by omega
    show ¬ ldR 0 (a 4) (a 5) (a 6) (a 7) (a 13) (a 14) (a 15) (0 : Int32).toNatClampNeg 1 1000
    rw [c_00]
    intro h
    have h2 := (ldR_z.mp h).2.1
    rw [h15, h13] at h2
    exact absurd h2 (by decide)
/-- a DRY cloth: none -/
theorem k_dr (h12 : i 12 = 2) (h16 : ¬ a 16 1 = -1) : plS 1 0 0 0 (i, a) (0, -1, (i, a)) := by
  have hc : inC (i, a) 1 := by
    show 0 ≤ (1 : Int32).toInt ∧ (1 : Int32).toInt < (i 12).toInt
    rw [h12]
    decide
  exact Or.inr ⟨hc, Or.inr ⟨by decide, Or.inl ⟨by show ¬ a 16 (1 : Int32).toNatClampNeg = -1; rw [c_11]; exact h16, rfl⟩⟩⟩
end KST
