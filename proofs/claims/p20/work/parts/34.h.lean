/-! steps of the class against nodes of the reference -/
noncomputable def lkr (ad : Nat → Nat) (x : Int32) : Value := if x = -1 then .null else .ref (ad x.toNatClampNeg)
/-- the class's number of a look -/
noncomputable def lkC (x : Int32) : Int32 := if x = 14 then 15 else if x = 15 then 16 else if x = 16 then 19 else x
noncomputable def SN (f : Nat → va_E) (ad : Nat → Nat) (s : AS) (b k : Nat) : Prop :=
  rd f b 0 = .int (s.2 26 k + 1) ∧ (s.2 26 k = 0 ∨ s.2 26 k = 4 → rd f b 1 = .int (s.2 27 k) ∧ rd f b 2 = .int (s.2 28 k)) ∧ (s.2 26 k = 3 ∨ s.2 26 k = 6 ∨ s.2 26 k = 7 ∨ s.2 26 k = 8 → rd f b 2 = .int (s.2 27 k)) ∧ (s.2 26 k = 5 → rd f b 1 = .int (s.2 27 k))
  ∧ (s.2 26 k = 9 → rd f b 3 = .int (lkC (s.2 29 k)) ∧ rd f b 4 = .int (if s.2 30 k = 60 then 1 else 0) ∧ rd f b 2 = .int (s.2 28 k) ∧ (s.2 29 k = 17 ∨ s.2 29 k = 18 → rd f b 1 = .int (s.2 27 k)))
  ∧ rd f b 5 = lkr ad (s.2 31 k) ∧ rd f b 6 = lkr ad (s.2 32 k) ∧ rd f b 7 = lkr ad (s.2 33 k)
noncomputable def TRS (V : Nat → Prop) (ad : Nat → Nat) (L : List Nat) (f : Nat → va_E) (s : AS) : Prop := ∀ k : Nat, V k → (ad k ∈ L ∧ sh (f (ad k)) = (0, 5, 0)) ∧ SN f ad s (ad k) k
/-- the levels of the nodes -/
noncomputable def LVS (V : Nat → Prop) (dp : Nat → Nat) (s : AS) : Prop := ∀ k : Nat, V k → k < 2700 ∧ dp k ≤ 8 ∧ (7 ≤ (s.2 26 k).toInt → dp k ≤ 7) ∧ lk V dp (dp k + 1) (s.2 31 k) ∧ lk V dp (dp k + 1) (s.2 32 k) ∧ lk V dp (dp k) (s.2 33 k)
section RHS
variable {g : Nat → Nat} {L L' : List Nat} {f f' f2 : Nat → va_E} {x0 wk vs cl ru b c k i : Nat} {va ad dp : Nat → Nat} {s s' : AS} {cs : List (Nat × Nat)} {V : Nat → Prop} {x : Int32}
theorem SN.go (h : SN f ad s b k) (hr : ∀ j : Nat, rd f' b j = rd f b j) (hf : ∀ j : Nat, 19 ≤ j → s'.2 j = s.2 j) : SN f' ad s' b k := by
  unfold SN at h ⊢
  rw [hr, hr, hr, hr, hr, hr, hr, hr, hf 26 (by omega), hf 27 (by omega), hf 28 (by omega), hf 29 (by omega), hf 30 (by omega), hf 31 (by omega), hf 32 (by omega), hf 33 (by omega)]
  exact h
theorem TRS.go (h : TRS V ad L f s) (hE : Ext L f L' f') (hF : Fr cs L f f') (hc : ∀ c ∈ cs, c.1 ≠ 5) (hf : ∀ j : Nat, 19 ≤ j → s'.2 j = s.2 j) : TRS V ad L' f' s' := fun k hk =>
  ⟨mem_ext (h k hk).1 hE, (h k hk).2.go (fun j => hF.1 _ (h k hk).1.1 5 (h k hk).1.2 j (fun g => hc _ g rfl)) hf⟩
theorem LVS.go (h : LVS V dp s) (hf : ∀ j : Nat, 19 ≤ j → s'.2 j = s.2 j) : LVS V dp s' := fun k hk => by
  rw [hf 26 (by omega), hf 31 (by omega), hf 32 (by omega), hf 33 (by omega)]
  exact h k hk
theorem FX.nt (h : FX s s') : ∀ j : Nat, 19 ≤ j → s'.2 j = s.2 j := fun j hj => h.1 j (by omega) (by omega) (by omega)
theorem RN.put (h : RN f ru s) (hki : (k, i) ∈ [(1, 39), (2, 44), (3, 45), (4, 40), (5, 41), (6, 42), (7, 43)]) (hrd : ∀ b j : Nat, rd f2 b j = if b = ru ∧ j = k then .int x else rd f b j) : RN f2 ru (va_up s.1 i x, s.2) := by
  obtain ⟨h1, h2, h3, h4, h5, h6, h7⟩ := h
  simp only [List.mem_cons, Prod.mk.injEq, List.not_mem_nil, or_false] at hki
  rcases hki with ⟨rfl, rfl⟩ | ⟨rfl, rfl⟩ | ⟨rfl, rfl⟩ | ⟨rfl, rfl⟩ | ⟨rfl, rfl⟩ | ⟨rfl, rfl⟩ | ⟨rfl, rfl⟩ <;> refine ⟨?_, ?_, ?_, ?_, ?_, ?_, ?_⟩ <;> rw [hrd] <;> simp [va_up, h1, h2, h3, h4, h5, h6, h7]
theorem SR.pr (h : SR g L f (x0, wk, vs, cl, ru, va) s) (hki : (k, i) ∈ [(1, 39), (2, 44), (3, 45), (4, 40), (5, 41), (6, 42), (7, 43)]) (hE : Ext L f L f2) (hrd : ∀ b j : Nat, rd f2 b j = if b = ru ∧ j = k then .int x else rd f b j) (hup : ∀ b : Nat, b ≠ ru → f2 b = f b) : SR g L f2 (x0, wk, vs, cl, ru, va) (va_up s.1 i x, s.2) := by
  have hk : k ≠ 0 ∧ 39 ≤ i ∧ i < 46 := by
    simp only [List.mem_cons, Prod.mk.injEq, List.not_mem_nil, or_false] at hki
    rcases hki with ⟨rfl, rfl⟩ | ⟨rfl, rfl⟩ | ⟨rfl, rfl⟩ | ⟨rfl, rfl⟩ | ⟨rfl, rfl⟩ | ⟨rfl, rfl⟩ | ⟨rfl, rfl⟩ <;> decide
  exact h.rn1 hE (Fr.put (cs := [(4, k)]) (a := ru) (ci := 4) Fr.rf Ext.rf h.1.1.2.2.2.2.2 (List.mem_singleton.mpr rfl) hrd hup) (fun c hc => by rw [List.mem_singleton.mp hc]; exact ⟨rfl, hk.1⟩) (h.2.2.2.2.2.put hki hrd) (fun j hj => up_i (by omega)) rfl
end RHS
theorem cO_0 : cO 0 = 0 := by decide
theorem cO_1 : cO 1 = 1 := by decide
theorem cO_2 : cO 2 = 2 := by decide
theorem cO_3 : cO 3 = 3 := by decide
theorem cO_4 : cO 4 = 4 := by decide
theorem cO_5 : cO 5 = 5 := by decide
theorem cO_m : cO 1000 = -1 := by decide
theorem cO_z {e : Int32} (h : 0 ≤ e.toInt ∧ e.toInt ≤ 1000) : (cO e = 0 ↔ e = 0) ∧ (cO e = -1 ↔ e = 1000) := by
  unfold cO
  by_cases g : e = 1000
  · rw [if_pos g, g]; exact ⟨⟨fun e => absurd e (by decide), fun e => absurd e (by decide)⟩, ⟨fun _ => rfl, fun _ => rfl⟩⟩
  · rw [if_neg g]
    refine ⟨Iff.rfl, ⟨fun e1 => ?_, fun e1 => absurd e1 g⟩⟩
    rw [e1] at h
    exact absurd h.1 (by decide)
theorem wd_k {x y : Int32} (h : x + 1 = y) : x = y - 1 := by rw [← h]; exact (Int32.add_sub_cancel _ _).symm
theorem kd_6 {x : Int32} (h : 0 ≤ x.toInt ∧ x.toInt ≤ 11) (h7 : x < 7) (c : ¬ x + 1 = 1 ∧ ¬ x + 1 = 2 ∧ ¬ x + 1 = 3 ∧ ¬ x + 1 = 4 ∧ ¬ x + 1 = 5 ∧ ¬ x + 1 = 6) : x = 6 := by
  have e1 : (1 : Int32).toInt = 1 := by decide
  have e2 : (2 : Int32).toInt = 2 := by decide
  have e3 : (3 : Int32).toInt = 3 := by decide
  have e4 : (4 : Int32).toInt = 4 := by decide
  have e5 : (5 : Int32).toInt = 5 := by decide
  have e6 : (6 : Int32).toInt = 6 := by decide
  have e7 : (7 : Int32).toInt = 7 := by decide
  have e : (x + 1).toInt = x.toInt + 1 := by rw [ad_i (by omega) (by omega), e1]
  obtain ⟨c1, c2, c3, c4, c5, c6⟩ := c
  rw [← Int32.toInt_inj, e] at c1 c2 c3 c4 c5 c6
  rw [Int32.lt_iff_toInt_lt] at h7
  rw [← Int32.toInt_inj]
  omega
theorem wd_lt {x : Int32} (h : 0 ≤ x.toInt ∧ x.toInt ≤ 11) : (8 ≤ x + 1 ↔ ¬ x < 7) := by
  have e1 : (1 : Int32).toInt = 1 := by decide
  have e7 : (7 : Int32).toInt = 7 := by decide
  have e8 : (8 : Int32).toInt = 8 := by decide
  have e : (x + 1).toInt = x.toInt + 1 := by rw [ad_i (by omega) (by omega), e1]
  rw [Int32.le_iff_toInt_le, Int32.lt_iff_toInt_lt, e]
  omega
section PLS
variable {s : AS} {k c : Nat}
theorem plA_0 (h : s.2 26 k = 0) : plA s k c = dpA s c (s.2 27 k).toNatClampNeg (s.2 28 k) := by unfold plA; rw [if_pos h]
theorem plA_1 (h : s.2 26 k = 1) : plA s k c = arR s c := by unfold plA; rw [if_neg (by rw [h]; decide), if_pos h]
theorem plA_2 (h : s.2 26 k = 2) : plA s k c = (0, waA s c) := by unfold plA; rw [if_neg (by rw [h]; decide), if_neg (by rw [h]; decide), if_pos h]
theorem plA_3 (h : s.2 26 k = 3) : plA s k c = reA (s.2 27 k).toNatClampNeg s := by unfold plA; rw [if_neg (by rw [h]; decide), if_neg (by rw [h]; decide), if_neg (by rw [h]; decide), if_pos h]
theorem plA_4 (h : s.2 26 k = 4) : plA s k c = feR s (s.2 27 k).toNatClampNeg (s.2 28 k) := by unfold plA; rw [if_neg (by rw [h]; decide), if_neg (by rw [h]; decide), if_neg (by rw [h]; decide), if_neg (by rw [h]; decide), if_pos h]
theorem plA_5 (h : s.2 26 k = 5) : plA s k c = lmR s (s.2 27 k).toNatClampNeg := by unfold plA; rw [if_neg (by rw [h]; decide), if_neg (by rw [h]; decide), if_neg (by rw [h]; decide), if_neg (by rw [h]; decide), if_neg (by rw [h]; decide), if_pos h]
theorem plA_6 (h : s.2 26 k = 6) : plA s k c = (100 + s.2 27 k, s) := by unfold plA; rw [if_neg (by rw [h]; decide), if_neg (by rw [h]; decide), if_neg (by rw [h]; decide), if_neg (by rw [h]; decide), if_neg (by rw [h]; decide), if_neg (by rw [h]; decide)]
end PLS
theorem cO_f {x : Int32} (h : 1 ≤ x.toInt ∧ x.toInt ≤ 99) : cO (100 + x) = 100 + x := by
  unfold cO
  refine if_neg fun e => ?_
  have e1 : (100 : Int32).toInt = 100 := by decide
  have e2 : (1000 : Int32).toInt = 1000 := by decide
  rw [← Int32.toInt_inj, ad_i (by omega) (by omega), e1, e2] at e
  omega
theorem lkC_inv {x : Int32} (h : 14 ≤ x.toInt ∧ x.toInt ≤ 18) : (lkC x = 15 → x = 14) ∧ (lkC x = 16 → x = 15) ∧ (lkC x = 17 → x = 17) ∧ (lkC x = 18 → x = 18) ∧ (¬ lkC x = 15 → ¬ lkC x = 16 → ¬ lkC x = 17 → ¬ lkC x = 18 → x = 16) := by
  unfold lkC
  by_cases h1 : x = 14
  · rw [if_pos h1]; exact ⟨fun _ => h1, fun e => absurd e (by decide), fun e => absurd e (by decide), fun e => absurd e (by decide), fun e => absurd rfl e⟩
  rw [if_neg h1]
  by_cases h2 : x = 15
  · rw [if_pos h2]; exact ⟨fun e => absurd e (by decide), fun _ => h2, fun e => absurd e (by decide), fun e => absurd e (by decide), fun _ e => absurd rfl e⟩
  rw [if_neg h2]
  by_cases h3 : x = 16
  · rw [if_pos h3]; exact ⟨fun e => absurd e (by decide), fun e => absurd e (by decide), fun e => absurd e (by decide), fun e => absurd e (by decide), fun _ _ _ _ => h3⟩
  rw [if_neg h3]
  refine ⟨fun e => absurd e h2, fun e => absurd e h3, id, id, fun e1 e2 e3 e4 => ?_⟩
  rw [← Int32.toInt_inj] at h1 h2 h3 e1 e2 e3 e4 ⊢
  have k14 : (14 : Int32).toInt = 14 := by decide
  have k15 : (15 : Int32).toInt = 15 := by decide
  have k16 : (16 : Int32).toInt = 16 := by decide
  have k17 : (17 : Int32).toInt = 17 := by decide
  have k18 : (18 : Int32).toInt = 18 := by decide
  omega
section RES_
variable {N a : Nat} {s1 : AS}
theorem re_limn (h : a < N) (he : s1.1 40 = s1.1 39) : reA (N - a) s1 = (1000, s1) := by
  rw [show N - a = (N - a - 1) + 1 by omega]
  unfold reA
  rw [if_pos he]
theorem re_gon (h : a < N) (he : ¬ s1.1 40 = s1.1 39) : reA (N - a) s1 = reA (N - (a + 1)) (h1A s1) := by
  rw [show N - a = (N - (a + 1)) + 1 by omega]
  show (if s1.1 40 = s1.1 39 then (1000, s1) else reA (N - (a + 1)) (h1A s1)) = _
  rw [if_neg he]
end RES_
theorem nI_up {ii z : Int32} {a N : Nat} (hz : z = nI N) (hN : N < 2 ^ 31) (hii : ii = nI a) (ha : a ≤ N) : (¬ z ≤ ii → a < N) ∧ (z ≤ ii → a = N) := by
  subst hz
  subst hii
  refine ⟨fun h => ?_, fun h => ?_⟩
  · rcases Nat.lt_or_ge a N with h1 | h1
    · exact h1
    · have : a = N := by omega
      subst this
      exact absurd (Int32.le_iff_toInt_le.mpr (Int.le_refl _)) h
  · rw [Int32.le_iff_toInt_le, nI_toInt hN, nI_toInt (by omega)] at h
    omega
theorem v6_of {x : Int32} (h : 0 ≤ x.toInt ∧ x.toInt ≤ 5) : x.toNatClampNeg < 6 := by
  have := clamp_i h.1
  omega
theorem we_of {x : Int32} (h : 1 ≤ x.toInt ∧ x.toInt ≤ 50) : 1 ≤ 100 + x ∧ 1 ≤ x := by
  have e1 : (1 : Int32).toInt = 1 := by decide
  have e2 : (100 : Int32).toInt = 100 := by decide
  refine ⟨?_, ?_⟩
  · rw [Int32.le_iff_toInt_le, ad_i (by omega) (by omega)]; omega
  · rw [Int32.le_iff_toInt_le]; omega
