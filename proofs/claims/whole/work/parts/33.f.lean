/-! an hour -/
theorem LD.hour {ld h z d w : Int32} (hl : LD ld h d w) (hz : z.toInt = h.toInt + 1) : LD ld z 0 d := by
  obtain ⟨h1, h2, h3, h4, h5, h6⟩ := hl
  refine ⟨h1, by omega, Or.inl rfl, h3, ⟨fun e => absurd e (by decide), fun e => by omega⟩, ⟨fun e => ?_, fun e => Or.inr (h5.mpr (by omega))⟩⟩
  rcases e with e | e
  · exact absurd e (by decide)
  · have := h5.mp e; omega
theorem lt_ho {fo st mi la h d w : Int32} (hf : 0 ≤ fo.toInt ∧ fo.toInt ≤ 1000) (hh : 0 ≤ h.toInt) (hl : LD la h d w) : ltF fo = hoF fo ∧ ltS fo st la h = hoS fo st d w ∧ ltM fo st mi la h = hoM fo st mi d w := by
  have c5 : (5 : Int32).toInt = 5 := by decide
  have c0 : (0 : Int32).toInt = 0 := by decide
  have c1 : (1 : Int32).toInt = 1 := by decide
  have e : (fo - 5).toInt = fo.toInt - 5 := by rw [su_i (by omega) (by omega), c5]
  have hlt := Int32.toInt_lt h
  have e2 : (h - 1).toInt = h.toInt - 1 := by rw [su_i (by omega) (by omega), c1]
  have k1 : ltF fo = hoF fo := by
    unfold ltF hoF
    by_cases g : fo ≤ 5
    · rw [if_pos g, if_neg]
      rw [Int32.le_iff_toInt_le] at g
      rw [Int32.lt_iff_toInt_lt]
      omega
    · rw [if_neg g, if_pos]
      rw [Int32.le_iff_toInt_le] at g
      rw [Int32.lt_iff_toInt_lt]
      omega
  obtain ⟨-, -, h3, h4, -, h6⟩ := hl
  have k2 : h - 1 ≤ la ↔ (d = 1 ∨ w = 1) := by
    rw [h6, Int32.le_iff_toInt_le, e2]
  refine ⟨k1, ?_, ?_⟩
  · unfold ltS hoS
    rw [k1]
    by_cases g1 : hoF fo = 0
    · rw [if_pos g1, if_pos g1]
    rw [if_neg g1, if_neg g1]
    by_cases g2 : st = 2
    · rw [if_pos g2, if_pos g2]
    rw [if_neg g2, if_neg g2]
    rcases h3 with rfl | rfl
    · rw [if_pos rfl]
      rcases h4 with rfl | rfl
      · rw [if_pos rfl, if_neg (fun g => by rcases k2.mp g with g | g <;> exact absurd g (by decide))]
      · rw [if_neg (show ¬ (1 : Int32) = 0 by decide), if_pos (k2.mpr (Or.inr rfl))]
    · rw [if_neg (show ¬ (1 : Int32) = 0 by decide), if_pos (k2.mpr (Or.inl rfl))]
  · unfold ltM hoM
    rw [k1]
    by_cases g1 : hoF fo = 0
    · rw [if_pos g1, if_pos g1]
    rw [if_neg g1, if_neg g1]
    by_cases g2 : st = 2
    · rw [if_pos g2, if_pos g2]
    rw [if_neg g2, if_neg g2]
    rcases h3 with rfl | rfl
    · rw [if_pos rfl]
      rcases h4 with rfl | rfl
      · rw [if_pos rfl, if_neg (fun g => by rcases k2.mp g with g | g <;> exact absurd g (by decide))]
      · rw [if_neg (show ¬ (1 : Int32) = 0 by decide), if_pos (k2.mpr (Or.inr rfl))]
    · rw [if_neg (show ¬ (1 : Int32) = 0 by decide), if_pos (k2.mpr (Or.inl rfl))]
/-- the hour of the latest dip of each vat -/
noncomputable def laF (f : Nat → va_E) (va : Nat → Nat) (k : Nat) : Int32 := match rd f (va k) 7 with
  | .int z => z
  | _ => 0
/-- the first a vats have lived through the hour -/
noncomputable def LV (va : Nat → Nat) (s : AS) (la : Nat → Int32) (f : Nat → va_E) (a : Nat) : Prop := ∀ k : Nat, k < 6 → rd f (va k) 2 = .int (if k < a then ltF (s.2 5 k) else s.2 5 k) ∧ rd f (va k) 3 = .int (if k < a then ltM (s.2 5 k) (s.2 7 k) (s.2 6 k) (la k) (s.1 1) else s.2 6 k) ∧ rd f (va k) 4 = .int (if k < a then ltS (s.2 5 k) (s.2 7 k) (la k) (s.1 1) else s.2 7 k)
section HOS
variable {g : Nat → Nat} {L L' L1 : List Nat} {f f' f1 f2 : Nat → va_E} {x0 wk vs cl ru b a : Nat} {va : Nat → Nat} {s : AS} {la : Nat → Int32} {x2 x3 x4 z : Int32}
theorem SR.lad (h : SR g L f (x0, wk, vs, cl, ru, va) s) : ∀ k : Nat, k < 6 → rd f (va k) 7 = .int (laF f va k) ∧ LD (laF f va k) (s.1 1) (s.2 10 k) (s.2 11 k) := fun k hk => by
  obtain ⟨-, -, -, -, -, -, -, -, ld, h1, h2⟩ := (h.2.1 k hk).2
  have e : laF f va k = ld := by unfold laF; rw [h1]
  rw [e]
  exact ⟨h1, h2⟩
theorem LV.st (h : SR g L f (x0, wk, vs, cl, ru, va) s) : LV va s la f 0 := fun k hk => by
  obtain ⟨-, -, -, h2, h3, h4, -⟩ := (h.2.1 k hk).2
  exact ⟨h2, h3, h4⟩
theorem LV.nx (h : LV va s la f1 a) (hSR : SR g L f (x0, wk, vs, cl, ru, va) s) (hE : Ext L f L1 f1) (ha : a < 6) (hb : b = va a) (hO : OF 7 [b] L1 f1 f2) (h2 : rd f2 b 2 = .int x2) (h3 : rd f2 b 3 = .int x3) (h4 : rd f2 b 4 = .int x4) (e2 : x2 = ltF (s.2 5 a)) (e3 : x3 = ltM (s.2 5 a) (s.2 7 a) (s.2 6 a) (la a) (s.1 1)) (e4 : x4 = ltS (s.2 5 a) (s.2 7 a) (la a) (s.1 1)) : LV va s la f2 (a + 1) := fun k hk => by
  subst hb
  by_cases e : k = a
  · subst e
    rw [if_pos (by omega), if_pos (by omega), if_pos (by omega), ← e2, ← e3, ← e4]
    exact ⟨h2, h3, h4⟩
  · have hm := (hSR.2.1 k hk).2.1
    have q := hO (va k) (hE _ hm.1).1 ((hE _ hm.1).2.trans hm.2) (fun hi => e (hSR.2.1.va_inj hk ha (List.mem_singleton.mp hi)))
    rw [q, q, q]
    have hka : (k < a + 1) = (k < a) := propext ⟨fun _ => by omega, fun _ => by omega⟩
    simp only [hka]
    exact h k hk
theorem SR.ho (h : SR g L f (x0, wk, vs, cl, ru, va) s) (hE : Ext L f L' f') (hF : Fr [(7, 2), (7, 3), (7, 4), (8, 1)] L f f') (hLV : LV va s (laF f va) f1 6) (hE1 : Ext L f L1 f1) (hup : ∀ b : Nat, b ≠ wk → f' b = f1 b) (hw : rd f' wk 1 = .int z) (hz : z = s.1 1 + 1) (hRV : RV s) (hh : 0 ≤ (s.1 1).toInt ∧ (s.1 1).toInt ≤ 2000000000) : SR g L' f' (x0, wk, vs, cl, ru, va) (hoA s) := by
  subst hz
  obtain ⟨p1, p2, p3⟩ := h.parts hE hF (by decide) (by decide)
  have hmw := h.1.1.2.1
  have c1 : (1 : Int32).toInt = 1 := by decide
  have ez : (s.1 1 + 1).toInt = (s.1 1).toInt + 1 := by rw [ad_i (by omega) (by omega), c1]
  refine ⟨p1, fun k hk => ⟨by rw [ra_eq p2]; exact (h.2.1 k hk).1, ?_⟩, h.2.2.1.same hE p3 (OF.fr hF (by decide)) rfl (fun i j h1 h2 => ((((up_j (by omega)).trans (up_j (by omega))).trans (up_j (by omega))).trans (up_j (by omega))).trans (up_j (by omega))), ⟨hw, (hF.1 wk hmw.1 8 hmw.2 2 (by decide)).trans h.2.2.2.1.2⟩, h.hn hF (by decide) rfl rfl rfl, h.rn hF (by decide) (fun j h1 h2 => up_i (by omega))⟩
  obtain ⟨q0, g0, g1, g2, g3, g4, g5, g6, ld, g7, g8⟩ := (h.2.1 k hk).2
  obtain ⟨hl1, hl2⟩ := h.lad k hk
  have q : ∀ j : Nat, (7, j) ∉ [(7, 2), (7, 3), (7, 4), (8, 1)] → rd f' (va k) j = rd f (va k) j := fun j hj => hF.1 _ q0.1 7 q0.2 j hj
  have hne : va k ≠ wk := fun e => by
    have h1 : sh (f (va k)) = (0, 7, 0) := q0.2
    have h2 : sh (f wk) = (0, 8, 0) := hmw.2
    rw [e, h2] at h1
    exact absurd h1 (by decide)
  have hr : ∀ j : Nat, rd f' (va k) j = rd f1 (va k) j := fun j => by unfold rd; rw [hup _ hne]
  obtain ⟨v2, v3, v4⟩ := hLV k hk
  rw [if_pos hk] at v2 v3 v4
  obtain ⟨t1, t2, t3⟩ := lt_ho (st := s.2 7 k) (mi := s.2 6 k) (hRV k hk).2 hh.1 hl2
  refine ⟨mem_ext q0 hE, (q 0 (by decide)).trans g0, (q 1 (by decide)).trans g1, ?_, ?_, ?_, (q 5 (by decide)).trans g5, (q 6 (by decide)).trans g6, laF f va k, (q 7 (by decide)).trans hl1, ?_⟩
  · rw [show (hoA s).2 5 k = hoF (s.2 5 k) from if_pos hk, ← t1, hr]; exact v2
  · rw [show (hoA s).2 6 k = hoM (s.2 5 k) (s.2 7 k) (s.2 6 k) (s.2 10 k) (s.2 11 k) from if_pos hk, ← t3, hr]; exact v3
  · rw [show (hoA s).2 7 k = hoS (s.2 5 k) (s.2 7 k) (s.2 10 k) (s.2 11 k) from if_pos hk, ← t2, hr]; exact v4
  · rw [show (hoA s).2 10 k = 0 from if_pos hk, show (hoA s).2 11 k = s.2 10 k from if_pos hk]
    exact hl2.hour ez
end HOS
