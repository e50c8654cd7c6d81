/-! many hours -/
theorem hN_s : ∀ (n : Nat) (s : AS), hN (n + 1) s = hoA (hN n s) := by
  intro n
  induction n with
  | zero => intro s; rfl
  | succ n ih =>
    intro s
    show hN (n + 1) (hoA s) = hoA (hN n (hoA s))
    exact ih (hoA s)
theorem hN_1 : ∀ (n : Nat) (s : AS), (∀ j : Nat, j ≠ 1 → (hN n s).1 j = s.1 j) ∧ (∀ j : Nat, j ≠ 5 → j ≠ 6 → j ≠ 7 → j ≠ 10 → j ≠ 11 → (hN n s).2 j = s.2 j) ∧ (0 ≤ (s.1 1).toInt → (s.1 1).toInt + n ≤ 2000000000 → ((hN n s).1 1).toInt = (s.1 1).toInt + n) := by
  intro n
  induction n with
  | zero => intro s; exact ⟨fun _ _ => rfl, fun _ _ _ _ _ _ => rfl, fun _ _ => by show (s.1 1).toInt = _; omega⟩
  | succ n ih =>
    intro s
    obtain ⟨h1, h2, h3⟩ := ih s
    rw [hN_s]
    refine ⟨fun j hj => (va_up_ne _ _ hj).trans (h1 j hj), fun j a b c d e => ((((((va_up_ne _ _ e).trans (va_up_ne _ _ d)).trans (va_up_ne _ _ c)).trans (va_up_ne _ _ b)).trans (va_up_ne _ _ a)).trans (h2 j a b c d e)), fun h0 hb => ?_⟩
    have e := h3 h0 (by omega)
    have c1 : (1 : Int32).toInt = 1 := by decide
    show ((hN n s).1 1 + 1).toInt = _
    rw [ad_i (by omega) (by omega), e, c1]
    omega
theorem RV.hN {s : AS} (h : RV s) : ∀ n : Nat, RV (hN n s) := by
  intro n
  induction n with
  | zero => exact h
  | succ n ih => rw [hN_s]; exact ih.ho _
theorem food_n {s : AS} (h : RV s) {k : Nat} (hk : k < 6) : ∀ n : Nat, ((hN n s).2 5 k).toInt ≤ 1000 - 5 * n ∨ ((hN n s).2 5 k).toInt ≤ 0 := by
  intro n
  induction n with
  | zero => have := (h k hk).2; exact Or.inl (by show (s.2 5 k).toInt ≤ _; omega)
  | succ n ih =>
    have h1 := (RV.hN h n k hk).2
    have h2 := (hoF_i h1).2.2
    rw [hN_s]
    rw [show (hoA (hN n s)).2 5 k = hoF ((hN n s).2 5 k) from if_pos hk]
    by_cases g : ((hN n s).2 5 k).toInt ≤ 5
    · rw [if_pos g] at h2; exact Or.inr h2
    · rw [if_neg g] at h2
      rcases ih with ih | ih
      · exact Or.inl (by omega)
      · omega
/-- all vats have starved, and none was dipped lately -/
noncomputable def STV (s : AS) : Prop := ∀ k : Nat, k < 6 → s.2 5 k = 0 ∧ s.2 7 k = 2 ∧ s.2 10 k = 0 ∧ s.2 11 k = 0
theorem stv_200 {s : AS} (h : RV s) : STV (hN 200 s) := fun k hk => by
  have h1 := (RV.hN h 199 k hk).2
  have e5 : (hN 199 s).2 5 k ≤ 5 := by
    rw [Int32.le_iff_toInt_le]
    have c5 : (5 : Int32).toInt = 5 := by decide
    rcases food_n h hk 199 with g | g <;> omega
  have ef : hoF ((hN 199 s).2 5 k) = 0 := if_pos e5
  rw [show hN 200 s = hoA (hN 199 s) from hN_s 199 s]
  refine ⟨(show (hoA (hN 199 s)).2 5 k = hoF ((hN 199 s).2 5 k) from if_pos hk).trans ef, (show (hoA (hN 199 s)).2 7 k = hoS ((hN 199 s).2 5 k) ((hN 199 s).2 7 k) ((hN 199 s).2 10 k) ((hN 199 s).2 11 k) from if_pos hk).trans (if_pos ef), if_pos hk, ?_⟩
  rw [show (hoA (hN 199 s)).2 11 k = (hN 199 s).2 10 k from if_pos hk, show hN 199 s = hoA (hN 198 s) from hN_s 198 s]
  exact if_pos hk
theorem va_id {α : Type} {f : Nat → α} {k : Nat} {v : α} (h : v = f k) : va_up f k v = f := by
  funext j
  unfold va_up
  split
  · rename_i e; rw [h, e]
  · rfl
theorem ho_stv {s : AS} (h : STV s) : (hoA s).2 = s.2 := by
  have f5 : (fun k => if k < 6 then hoF (s.2 5 k) else s.2 5 k) = s.2 5 := by
    funext k
    by_cases hk : k < 6
    · rw [if_pos hk, (h k hk).1]; rfl
    · rw [if_neg hk]
  have f6 : (fun k => if k < 6 then hoM (s.2 5 k) (s.2 7 k) (s.2 6 k) (s.2 10 k) (s.2 11 k) else s.2 6 k) = s.2 6 := by
    funext k
    by_cases hk : k < 6
    · rw [if_pos hk, (h k hk).1]; exact if_pos rfl
    · rw [if_neg hk]
  have f7 : (fun k => if k < 6 then hoS (s.2 5 k) (s.2 7 k) (s.2 10 k) (s.2 11 k) else s.2 7 k) = s.2 7 := by
    funext k
    by_cases hk : k < 6
    · rw [if_pos hk, (h k hk).1, (h k hk).2.1]; exact if_pos rfl
    · rw [if_neg hk]
  have f10 : (fun k => if k < 6 then (0 : Int32) else s.2 10 k) = s.2 10 := by
    funext k
    by_cases hk : k < 6
    · rw [if_pos hk, (h k hk).2.2.1]
    · rw [if_neg hk]
  have f11 : (fun k => if k < 6 then s.2 10 k else s.2 11 k) = s.2 11 := by
    funext k
    by_cases hk : k < 6
    · rw [if_pos hk, (h k hk).2.2.1, (h k hk).2.2.2]
    · rw [if_neg hk]
  show va_up (va_up (va_up (va_up (va_up s.2 5 _) 6 _) 7 _) 10 _) 11 _ = s.2
  rw [va_id (f := s.2) f5, va_id (f := s.2) f6, va_id (f := s.2) f7, va_id (f := s.2) f10, va_id (f := s.2) f11]
theorem hN_stv {s : AS} (h : STV s) : ∀ n : Nat, hN n s = (va_up s.1 1 (s.1 1 + nI n), s.2) := by
  intro n
  induction n with
  | zero => exact Prod.ext (va_id (by show s.1 1 + 0 = s.1 1; exact Int32.add_zero _)).symm rfl
  | succ n ih =>
    rw [hN_s, ih]
    refine Prod.ext ?_ ?_
    · show va_up (va_up s.1 1 (s.1 1 + nI n)) 1 (s.1 1 + nI n + 1) = va_up s.1 1 (s.1 1 + nI (n + 1))
      rw [Int32.add_assoc, nI_1]
      funext j
      unfold va_up
      split <;> rfl
    · show (hoA (va_up s.1 1 (s.1 1 + nI n), s.2)).2 = s.2
      exact ho_stv (s := (va_up s.1 1 (s.1 1 + nI n), s.2)) h
theorem hN_add : ∀ (a b : Nat) (s : AS), hN (a + b) s = hN b (hN a s) := by
  intro a
  induction a with
  | zero => intro b s; rw [Nat.zero_add]; rfl
  | succ a ih => intro b s; rw [show a + 1 + b = (a + b) + 1 by omega]; exact ih b (hoA s)
theorem LD.late {ld h h2 d w : Int32} (hl : LD ld h d w) (hd : d = 0) (hw : w = 0) (hh : h.toInt ≤ h2.toInt) : LD ld h2 d w := by
  subst hd
  subst hw
  obtain ⟨h1, h2', -, -, -, h6⟩ := hl
  have hn : ¬ h.toInt - 1 ≤ ld.toInt := fun g => by rcases h6.mpr g with g | g <;> exact absurd g (by decide)
  exact ⟨h1, by omega, Or.inl rfl, Or.inl rfl, ⟨fun e => absurd e (by decide), fun e => by omega⟩, ⟨fun e => by rcases e with g | g <;> exact absurd g (by decide), fun e => by omega⟩⟩
section SWH
variable {g : Nat → Nat} {L : List Nat} {f f2 : Nat → va_E} {x0 wk vs cl ru : Nat} {va : Nat → Nat} {s : AS} {x : Int32}
theorem SR.wh (h : SR g L f (x0, wk, vs, cl, ru, va) s) (hE : Ext L f L f2) (hrd : ∀ b j : Nat, rd f2 b j = if b = wk ∧ j = 1 then .int x else rd f b j) (hup : ∀ b : Nat, b ≠ wk → f2 b = f b) (hl : ∀ k : Nat, k < 6 → ∀ ld : Int32, LD ld (s.1 1) (s.2 10 k) (s.2 11 k) → LD ld x (s.2 10 k) (s.2 11 k)) : SR g L f2 (x0, wk, vs, cl, ru, va) (va_up s.1 1 x, s.2) := by
  have hmw := h.1.1.2.1
  have hF : Fr [(8, 1)] L f f2 := Fr.put (cs := [(8, 1)]) (a := wk) (ci := 8) Fr.rf Ext.rf hmw.2 (by decide) hrd hup
  obtain ⟨p1, p2, p3⟩ := h.parts hE hF (by decide) (by decide)
  refine ⟨p1, fun k hk => ⟨by rw [ra_eq p2]; exact (h.2.1 k hk).1, ?_⟩, h.2.2.1.same hE p3 (OF.fr hF (by decide)) rfl (fun _ _ _ _ => rfl), ⟨(hrd _ _).trans (if_pos ⟨rfl, rfl⟩), (hF.1 wk hmw.1 8 hmw.2 2 (by decide)).trans h.2.2.2.1.2⟩, h.hn hF (by decide) rfl rfl rfl, h.rn hF (by decide) (fun j h1 h2 => up_i (by omega))⟩
  obtain ⟨q0, g0, g1, g2, g3, g4, g5, g6, ld, g7, g8⟩ := (h.2.1 k hk).2
  have q : ∀ j : Nat, rd f2 (va k) j = rd f (va k) j := fun j => OF.fr (ci := 7) hF (by decide) _ q0.1 q0.2 (by simp) j
  exact ⟨mem_ext q0 hE, (q 0).trans g0, (q 1).trans g1, (q 2).trans g2, (q 3).trans g3, (q 4).trans g4, (q 5).trans g5, (q 6).trans g6, ld, (q 7).trans g7, hl k hk ld g8⟩
/-- the hours behind the fullest vat's last one -/
theorem SR.hrs {n m : Nat} {z : Int32} (h : SR g L f (x0, wk, vs, cl, ru, va) (hN m s)) (hRV : RV s) (hh : 0 ≤ (s.1 1).toInt ∧ (s.1 1).toInt ≤ 9000000) (hn : n ≤ 10000) (hm : m = if 200 < n then 200 else n) (hz : z = (hN m s).1 1 + (nI n - nI m)) (hE : Ext L f L f2) (hrd : ∀ b j : Nat, rd f2 b j = if b = wk ∧ j = 1 then .int z else rd f b j) (hup : ∀ b : Nat, b ≠ wk → f2 b = f b) : SR g L f2 (x0, wk, vs, cl, ru, va) (hN n s) := by
  by_cases c : 200 < n
  · rw [if_pos c] at hm
    subst hm
    have hs := stv_200 hRV
    have e1 := (hN_1 200 s).2.2 hh.1 (by omega)
    have e2 : nI n - nI 200 = nI (n - 200) := by
      have e3 : nI n = nI (n - 200) + nI 200 := by rw [nI_add]; exact congrArg nI (by omega)
      rw [e3]
      exact Int32.add_sub_cancel _ _
    have e4 : hN n s = (va_up (hN 200 s).1 1 z, (hN 200 s).2) := by
      rw [show n = 200 + (n - 200) by omega, hN_add, hN_stv hs, hz, e2]
    rw [e4]
    have ez : z.toInt = ((hN 200 s).1 1).toInt + ((n - 200 : Nat) : Int) := by
      have e5 : (nI (n - 200)).toInt = ((n - 200 : Nat) : Int) := nI_toInt (by omega)
      rw [hz, e2, ad_i (by omega) (by omega), e5]
    exact h.wh hE hrd hup (fun k hk ld hl => hl.late (hs k hk).2.2.1 (hs k hk).2.2.2 (by omega))
  · rw [if_neg c] at hm
    subst hm
    have e : z = (hN m s).1 1 := by rw [hz, Int32.sub_self, Int32.add_zero]
    have e4 : hN m s = (va_up (hN m s).1 1 z, (hN m s).2) := Prod.ext (va_id e).symm rfl
    rw [e4]
    exact h.wh hE hrd hup (fun k hk ld hl => by rw [e]; exact hl)
end SWH
