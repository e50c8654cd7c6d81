/-! the state of the house as the reference holds it: numbers and rows -/
noncomputable abbrev AS : Type := (Nat → Int32) × (Nat → Nat → Int32)
/-- the hour of the latest dip, against the reference's two marks -/
noncomputable def LD (ld h d w : Int32) : Prop := -2 ≤ ld.toInt ∧ ld.toInt ≤ h.toInt ∧ (d = 0 ∨ d = 1) ∧ (w = 0 ∨ w = 1) ∧ (d = 1 ↔ ld.toInt = h.toInt) ∧ ((d = 1 ∨ w = 1) ↔ h.toInt - 1 ≤ ld.toInt)
noncomputable def VR (L : List Nat) (f : Nat → va_E) (b k : Nat) (s : AS) : Prop := (b ∈ L ∧ sh (f b) = (0, 7, 0)) ∧ rd f b 0 = .int (nI k) ∧ rd f b 1 = .int (s.2 4 k) ∧ rd f b 2 = .int (s.2 5 k) ∧ rd f b 3 = .int (s.2 6 k) ∧ rd f b 4 = .int (s.2 7 k) ∧ rd f b 5 = .int (s.2 8 k) ∧ rd f b 6 = .int (s.2 9 k) ∧ ∃ ld : Int32, rd f b 7 = .int ld ∧ LD ld (s.1 1) (s.2 10 k) (s.2 11 k)
/-- dry, as a number -/
noncomputable def dyA (d : Int32) : Int32 := if d = -1 then 0 else 1
noncomputable def CR (L : List Nat) (f : Nat → va_E) (b k : Nat) (s : AS) : Prop := (b ∈ L ∧ sh (f b) = (0, 0, 0)) ∧ rd f b 0 = .int (nI k) ∧ rd f b 1 = .int (s.2 13 k) ∧ rd f b 2 = .int (s.2 14 k) ∧ rd f b 3 = .int (s.2 15 k) ∧ rd f b 4 = .int (dyA (s.2 16 k)) ∧ rd f b 5 = .int (s.2 16 k) ∧ rd f b 6 = .int (s.2 17 k) ∧ rd f b 7 = .int (s.2 18 k)
/-- the house, its works, the row of vats, the row of cloths, the runner, the vats -/
noncomputable abbrev HB : Type := Nat × Nat × Nat × Nat × Nat × (Nat → Nat)
noncomputable def HR (g : Nat → Nat) (L : List Nat) (f : Nat → va_E) (h : HB) : Prop := match h with
  | (x0, wk, vs, cl, ru, _) => ((x0 ∈ L ∧ sh (f x0) = (0, 9, 0)) ∧ (wk ∈ L ∧ sh (f wk) = (0, 8, 0)) ∧ (vs ∈ L ∧ sh (f vs) = (2, g 2, 6)) ∧ (cl ∈ L ∧ sh (f cl) = (2, g 3, 30)) ∧ (ru ∈ L ∧ sh (f ru) = (0, 4, 0))) ∧ rd f x0 0 = .ref wk ∧ rd f x0 1 = .ref cl ∧ rd f x0 9 = .ref ru ∧ rd f wk 0 = .ref vs ∧ rd f ru 0 = .ref wk
noncomputable def WN (f : Nat → va_E) (wk : Nat) (s : AS) : Prop := rd f wk 1 = .int (s.1 1) ∧ rd f wk 2 = .int (s.1 2)
noncomputable def HN (f : Nat → va_E) (x0 : Nat) (s : AS) : Prop := rd f x0 2 = .int (s.1 12) ∧ rd f x0 3 = .int (s.1 3) ∧ rd f x0 8 = .int (s.1 37)
noncomputable def RN (f : Nat → va_E) (ru : Nat) (s : AS) : Prop := rd f ru 1 = .int (s.1 39) ∧ rd f ru 2 = .int (s.1 44) ∧ rd f ru 3 = .int (s.1 45) ∧ rd f ru 4 = .int (s.1 40) ∧ rd f ru 5 = .int (s.1 41) ∧ rd f ru 6 = .int (s.1 42) ∧ rd f ru 7 = .int (s.1 43)
noncomputable def VS (L : List Nat) (f : Nat → va_E) (vs : Nat) (va : Nat → Nat) (s : AS) : Prop := ∀ k : Nat, k < 6 → ra f vs k = some (va k) ∧ VR L f (va k) k s
noncomputable def CS (L : List Nat) (f : Nat → va_E) (cl : Nat) (s : AS) : Prop := ∀ k : Nat, (k : Int) < (s.1 12).toInt → ∃ b : Nat, ra f cl k = some b ∧ CR L f b k s
/-- the pool holds the state s -/
noncomputable def SR (g : Nat → Nat) (L : List Nat) (f : Nat → va_E) (h : HB) (s : AS) : Prop := HR g L f h ∧ VS L f h.2.2.1 h.2.2.2.2.2 s ∧ CS L f h.2.2.2.1 s ∧ WN f h.2.1 s ∧ HN f h.1 s ∧ RN f h.2.2.2.2.1 s
/-! what may be said of the numbers -/
noncomputable def RV (s : AS) : Prop := ∀ k : Nat, k < 6 → (0 ≤ (s.2 4 k).toInt ∧ (s.2 4 k).toInt ≤ 1000000) ∧ (0 ≤ (s.2 5 k).toInt ∧ (s.2 5 k).toInt ≤ 1000)
noncomputable def RC (s : AS) : Prop := (0 ≤ (s.1 12).toInt ∧ (s.1 12).toInt ≤ 30) ∧ ∀ k : Nat, (k : Int) < (s.1 12).toInt → (1 ≤ (s.2 13 k).toInt ∧ (s.2 13 k).toInt ≤ 50) ∧ 0 ≤ (s.2 14 k).toInt ∧ 0 ≤ (s.2 15 k).toInt ∧ (s.2 14 k).toInt + (s.2 15 k).toInt ≤ 200 * (s.2 13 k).toInt ∧ -1 ≤ (s.2 16 k).toInt
/-- the numbers, h hours at most -/
noncomputable def RG (H : Int) (s : AS) : Prop := RV s ∧ RC s ∧ 0 ≤ (s.1 1).toInt ∧ (s.1 1).toInt ≤ H
/-! what is done, to the state -/
noncomputable def feA (s : AS) (v : Nat) (n : Int32) : AS := (s.1, va_up (va_up s.2 5 (upd (s.2 5) v (tfF (s.2 5 v) n))) 7 (upd (s.2 7) v (tfS (s.2 5 v) (s.2 7 v) n)))
noncomputable def lmA (s : AS) (v : Nat) : AS := (s.1, va_up (va_up (va_up s.2 5 (upd (s.2 5) v (s.2 5 v / 2))) 6 (upd (s.2 6) v (liM (s.2 7 v) (s.2 6 v)))) 7 (upd (s.2 7) v (liS (s.2 7 v) (s.2 5 v))))
noncomputable def diA (s : AS) (c v : Nat) (m n : Int32) : AS := (s.1, va_up (va_up (va_up (va_up (va_up (va_up (va_up (va_up (va_up (va_up s.2 4 (upd (s.2 4) v (s.2 4 v - n))) 5 (upd (s.2 5) v (skF (s.2 5 v) m))) 6 (upd (s.2 6) v (s.2 6 v + m))) 7 (upd (s.2 7) v (skS (s.2 6 v) (s.2 5 v) (s.2 7 v) m))) 8 (upd (s.2 8) v (s.2 8 v + 1))) 9 (upd (s.2 9) v (s.2 9 v ||| (1 <<< (nI c &&& 31))))) 10 (upd (s.2 10) v 1)) 14 (upd (s.2 14) c (s.2 14 c + n))) 17 (upd (s.2 17) c (s.2 17 c ||| (1 <<< (nI v &&& 31))))) 18 (upd (s.2 18) c (s.2 18 c + 1)))
noncomputable def aiA (s : AS) (c : Nat) : AS := (va_up s.1 2 (s.1 2 + s.2 14 c / 8), va_up (va_up s.2 14 (upd (s.2 14) c 0)) 15 (upd (s.2 15) c (s.2 15 c + (s.2 14 c - s.2 14 c / 8))))
noncomputable def waA (s : AS) (c : Nat) : AS := (va_up s.1 2 (s.1 2 + (s.2 14 c + s.2 15 c / 20)), va_up (va_up s.2 14 (upd (s.2 14) c 0)) 15 (upd (s.2 15) c (s.2 15 c - s.2 15 c / 20)))
noncomputable def dyS (s : AS) (c : Nat) : AS := ((aiA s c).1, va_up (aiA s c).2 16 (upd (s.2 16) c (s.1 1 / 24)))
noncomputable def hoF (fo : Int32) : Int32 := if fo ≤ 5 then 0 else fo - 5
noncomputable def hoS (fo st d w : Int32) : Int32 := if hoF fo = 0 then 2 else if st = 2 then st else if d = 0 then (if w = 0 then 0 else st) else st
noncomputable def hoM (fo st mi d w : Int32) : Int32 := if hoF fo = 0 then mi else if st = 2 then mi else if d = 0 then (if w = 0 then 0 else mi) else mi
noncomputable def ho1 (s : AS) (n : Nat) : AS := (s.1, va_up (va_up (va_up (va_up (va_up s.2 5 (fun k => if k < n then hoF (s.2 5 k) else s.2 5 k)) 6 (fun k => if k < n then hoM (s.2 5 k) (s.2 7 k) (s.2 6 k) (s.2 10 k) (s.2 11 k) else s.2 6 k)) 7 (fun k => if k < n then hoS (s.2 5 k) (s.2 7 k) (s.2 10 k) (s.2 11 k) else s.2 7 k)) 10 (fun k => if k < n then 0 else s.2 10 k)) 11 (fun k => if k < n then s.2 10 k else s.2 11 k))
noncomputable def hoA (s : AS) : AS := (va_up s.1 1 (s.1 1 + 1), (ho1 s 6).2)
noncomputable def coA (s : AS) : AS := (va_up s.1 40 (s.1 40 + 1), s.2)
/-- the grains that a dip moves -/
noncomputable def mvA (s : AS) (c v : Nat) (m : Int32) : Int32 := mvV (s.2 4 v) (s.2 7 v) (s.2 13 c) (s.2 14 c) (s.2 15 c) m
noncomputable def shA (s : AS) (c : Nat) : Int32 := s.2 15 c / s.2 13 c
/-! frames of the pictures -/
section SRF
variable {g : Nat → Nat} {L L' : List Nat} {f f' : Nat → va_E} {b k : Nat} {s s' : AS} {cs : List (Nat × Nat)}
theorem mem_ext {t : shp} (h : b ∈ L ∧ sh (f b) = t) (hE : Ext L f L' f') : b ∈ L' ∧ sh (f' b) = t := ⟨(hE b h.1).1, (hE b h.1).2.trans h.2⟩
theorem VR.go (h : VR L f b k s) (hE : Ext L f L' f') (hr : ∀ j : Nat, rd f' b j = rd f b j) : VR L' f' b k s := by
  obtain ⟨h0, h1, h2, h3, h4, h5, h6, h7, ld, h8, h9⟩ := h
  exact ⟨mem_ext h0 hE, (hr _).trans h1, (hr _).trans h2, (hr _).trans h3, (hr _).trans h4, (hr _).trans h5, (hr _).trans h6, (hr _).trans h7, ld, (hr _).trans h8, h9⟩
theorem CR.go (h : CR L f b k s) (hE : Ext L f L' f') (hr : ∀ j : Nat, rd f' b j = rd f b j) : CR L' f' b k s := by
  obtain ⟨h0, h1, h2, h3, h4, h5, h6, h7, h8⟩ := h
  exact ⟨mem_ext h0 hE, (hr _).trans h1, (hr _).trans h2, (hr _).trans h3, (hr _).trans h4, (hr _).trans h5, (hr _).trans h6, (hr _).trans h7, (hr _).trans h8⟩
/-- another state that holds the same of the vat -/
theorem VR.st (h : VR L f b k s) (e1 : s'.1 1 = s.1 1) (e : ∀ j : Nat, j < 12 → s'.2 j k = s.2 j k) : VR L f b k s' := by
  unfold VR at h ⊢
  rw [e 4 (by omega), e 5 (by omega), e 6 (by omega), e 7 (by omega), e 8 (by omega), e 9 (by omega), e 10 (by omega), e 11 (by omega), e1]
  exact h
theorem CR.st (h : CR L f b k s) (e : ∀ j : Nat, 13 ≤ j → j < 19 → s'.2 j k = s.2 j k) : CR L f b k s' := by
  unfold CR at h ⊢
  rw [e 13 (by omega) (by omega), e 14 (by omega) (by omega), e 15 (by omega) (by omega), e 16 (by omega) (by omega), e 17 (by omega) (by omega), e 18 (by omega) (by omega)]
  exact h
theorem HR.fr {h : HB} (hH : HR g L f h) (hE : Ext L f L' f') (hF : Fr cs L f f') (hc : ∀ c ∈ [(9, 0), (9, 1), (9, 9), (8, 0), (4, 0)], c ∉ cs) : HR g L' f' h := by
  obtain ⟨x0, wk, vs, cl, ru, va⟩ := h
  obtain ⟨⟨h1, h2, h3, h4, h5⟩, r1, r2, r3, r4, r5⟩ := hH
  exact ⟨⟨mem_ext h1 hE, mem_ext h2 hE, mem_ext h3 hE, mem_ext h4 hE, mem_ext h5 hE⟩, (hF.1 x0 h1.1 9 h1.2 0 (hc _ (by decide))).trans r1, (hF.1 x0 h1.1 9 h1.2 1 (hc _ (by decide))).trans r2, (hF.1 x0 h1.1 9 h1.2 9 (hc _ (by decide))).trans r3, (hF.1 wk h2.1 8 h2.2 0 (hc _ (by decide))).trans r4, (hF.1 ru h5.1 4 h5.2 0 (hc _ (by decide))).trans r5⟩
theorem VS.va_inj {vs : Nat} {va : Nat → Nat} (h : VS L f vs va s) {i j : Nat} (hi : i < 6) (hj : j < 6) (e : va i = va j) : i = j := by
  have h1 := (h i hi).2.2.1
  have h2 := (h j hj).2.2.1
  rw [e] at h1
  have := h1.symm.trans h2
  injection this with e2
  exact (nI_eq (by omega) (by omega)).mp e2
theorem CS.inj {cl : Nat} (h : CS L f cl s) (hn : (s.1 12).toInt ≤ 30) {i j b : Nat} (hi : (i : Int) < (s.1 12).toInt) (hj : (j : Int) < (s.1 12).toInt) (e1 : ra f cl i = some b) (e2 : ra f cl j = some b) : i = j := by
  obtain ⟨b1, g1, h1⟩ := h i hi
  obtain ⟨b2, g2, h2⟩ := h j hj
  cases g1.symm.trans e1
  cases g2.symm.trans e2
  have := h1.2.1.symm.trans h2.2.1
  injection this with e3
  exact (nI_eq (by omega) (by omega)).mp e3
/-- the vats, when only vat v is another -/
theorem VS.one {vs : Nat} {va : Nat → Nat} (h : VS L f vs va s) (hE : Ext L f L' f') (hr : f' vs = f vs) {v : Nat} (hO : OF 7 [va v] L f f') (hv : VR L' f' (va v) v s') (hv6 : v < 6) (e1 : s'.1 1 = s.1 1) (e : ∀ k : Nat, k ≠ v → ∀ j : Nat, j < 12 → s'.2 j k = s.2 j k) : VS L' f' vs va s' := fun k hk => by
  refine ⟨by rw [ra_eq hr]; exact (h k hk).1, ?_⟩
  by_cases hkv : k = v
  · subst hkv; exact hv
  · have h2 := (h k hk).2
    exact (h2.go hE (hO _ h2.1.1 h2.1.2 (by
      intro hm
      exact hkv (h.va_inj hk hv6 (List.mem_singleton.mp hm))))).st e1 (e k hkv)
theorem VS.same {vs : Nat} {va : Nat → Nat} (h : VS L f vs va s) (hE : Ext L f L' f') (hr : f' vs = f vs) (hO : OF 7 [] L f f') (e1 : s'.1 1 = s.1 1) (e : ∀ k : Nat, ∀ j : Nat, j < 12 → s'.2 j k = s.2 j k) : VS L' f' vs va s' := fun k hk =>
  ⟨by rw [ra_eq hr]; exact (h k hk).1, (((h k hk).2.go hE (hO _ (h k hk).2.1.1 (h k hk).2.1.2 (by simp))).st e1 (e k))⟩
theorem CS.one {cl : Nat} (h : CS L f cl s) (hn : (s.1 12).toInt ≤ 30) (hE : Ext L f L' f') (hr : f' cl = f cl) {c b : Nat} (hc : (c : Int) < (s.1 12).toInt) (hb : ra f cl c = some b) (hO : OF 0 [b] L f f') (hv : CR L' f' b c s') (e1 : s'.1 12 = s.1 12) (e : ∀ k : Nat, k ≠ c → ∀ j : Nat, 13 ≤ j → j < 19 → s'.2 j k = s.2 j k) : CS L' f' cl s' := fun k hk => by
  rw [e1] at hk
  obtain ⟨b2, g1, g2⟩ := h k hk
  refine ⟨b2, by rw [ra_eq hr]; exact g1, ?_⟩
  by_cases hkc : k = c
  · subst hkc
    cases g1.symm.trans hb
    exact hv
  · exact (g2.go hE (hO _ g2.1.1 g2.1.2 (by
      intro hm
      have := List.mem_singleton.mp hm
      subst this
      exact hkc (h.inj hn hk hc g1 hb)))).st (e k hkc)
theorem CS.same {cl : Nat} (h : CS L f cl s) (hE : Ext L f L' f') (hr : f' cl = f cl) (hO : OF 0 [] L f f') (e1 : s'.1 12 = s.1 12) (e : ∀ k : Nat, ∀ j : Nat, 13 ≤ j → j < 19 → s'.2 j k = s.2 j k) : CS L' f' cl s' := fun k hk => by
  rw [e1] at hk
  obtain ⟨b2, g1, g2⟩ := h k hk
  exact ⟨b2, by rw [ra_eq hr]; exact g1, (g2.go hE (hO _ g2.1.1 g2.1.2 (by simp))).st (e k)⟩
end SRF
section SRO
variable {g : Nat → Nat} {L L' : List Nat} {f f' : Nat → va_E} {x0 wk vs cl ru : Nat} {va : Nat → Nat} {s s' : AS} {cs : List (Nat × Nat)}
/-- what stands still -/
theorem SR.parts (h : SR g L f (x0, wk, vs, cl, ru, va) s) (hE : Ext L f L' f') (hF : Fr cs L f f') (hc : ∀ c ∈ [(9, 0), (9, 1), (9, 9), (8, 0), (4, 0)], c ∉ cs) (hr : ∀ c ∈ [(200, 6), (200, 30)], c ∉ cs) : HR g L' f' (x0, wk, vs, cl, ru, va) ∧ f' vs = f vs ∧ f' cl = f cl :=
  ⟨h.1.fr hE hF hc, hF.2 vs h.1.1.2.2.1.1 1 _ _ h.1.1.2.2.1.2 (hr _ (by decide)), hF.2 cl h.1.1.2.2.2.1.1 1 _ _ h.1.1.2.2.2.1.2 (hr _ (by decide))⟩
theorem SR.wn (h : SR g L f (x0, wk, vs, cl, ru, va) s) (hF : Fr cs L f f') (hc : ∀ c ∈ [(8, 1), (8, 2)], c ∉ cs) (e1 : s'.1 1 = s.1 1) (e2 : s'.1 2 = s.1 2) : WN f' wk s' := by
  have hm := h.1.1.2.1
  exact ⟨by rw [e1]; exact (hF.1 wk hm.1 8 hm.2 1 (hc _ (by decide))).trans h.2.2.2.1.1, by rw [e2]; exact (hF.1 wk hm.1 8 hm.2 2 (hc _ (by decide))).trans h.2.2.2.1.2⟩
theorem SR.hn (h : SR g L f (x0, wk, vs, cl, ru, va) s) (hF : Fr cs L f f') (hc : ∀ c ∈ [(9, 2), (9, 3), (9, 8)], c ∉ cs) (e1 : s'.1 12 = s.1 12) (e2 : s'.1 3 = s.1 3) (e3 : s'.1 37 = s.1 37) : HN f' x0 s' := by
  have hm := h.1.1.1
  have hn := h.2.2.2.2.1
  exact ⟨by rw [e1]; exact (hF.1 x0 hm.1 9 hm.2 2 (hc _ (by decide))).trans hn.1, by rw [e2]; exact (hF.1 x0 hm.1 9 hm.2 3 (hc _ (by decide))).trans hn.2.1, by rw [e3]; exact (hF.1 x0 hm.1 9 hm.2 8 (hc _ (by decide))).trans hn.2.2⟩
theorem SR.rn (h : SR g L f (x0, wk, vs, cl, ru, va) s) (hF : Fr cs L f f') (hc : ∀ c ∈ [(4, 1), (4, 2), (4, 3), (4, 4), (4, 5), (4, 6), (4, 7)], c ∉ cs) (e : ∀ j : Nat, 39 ≤ j → j < 46 → s'.1 j = s.1 j) : RN f' ru s' := by
  have hm := h.1.1.2.2.2.2
  obtain ⟨h1, h2, h3, h4, h5, h6, h7⟩ := h.2.2.2.2.2
  have q : ∀ k : Nat, (4, k) ∈ [(4, 1), (4, 2), (4, 3), (4, 4), (4, 5), (4, 6), (4, 7)] → rd f' ru k = rd f ru k := fun k hk => hF.1 ru hm.1 4 hm.2 k (hc _ hk)
  exact ⟨by rw [e 39 (by omega) (by omega)]; exact (q 1 (by decide)).trans h1, by rw [e 44 (by omega) (by omega)]; exact (q 2 (by decide)).trans h2, by rw [e 45 (by omega) (by omega)]; exact (q 3 (by decide)).trans h3, by rw [e 40 (by omega) (by omega)]; exact (q 4 (by decide)).trans h4, by rw [e 41 (by omega) (by omega)]; exact (q 5 (by decide)).trans h5, by rw [e 42 (by omega) (by omega)]; exact (q 6 (by decide)).trans h6, by rw [e 43 (by omega) (by omega)]; exact (q 7 (by decide)).trans h7⟩
/-- nothing of the house was touched -/
theorem SR.still (h : SR g L f (x0, wk, vs, cl, ru, va) s) (hE : Ext L f L' f') (hF : Fr cs L f f') (hc : ∀ c ∈ cs, c.1 ≠ 0 ∧ c.1 ≠ 7 ∧ c.1 ≠ 8 ∧ c.1 ≠ 4 ∧ c ≠ (200, 6) ∧ c ≠ (200, 30) ∧ c ≠ (9, 0) ∧ c ≠ (9, 1) ∧ c ≠ (9, 9) ∧ c ≠ (9, 2) ∧ c ≠ (9, 3) ∧ c ≠ (9, 8)) : SR g L' f' (x0, wk, vs, cl, ru, va) s := by
  have n : ∀ c : Nat × Nat, (c.1 = 0 ∨ c.1 = 7 ∨ c.1 = 8 ∨ c.1 = 4 ∨ c = (200, 6) ∨ c = (200, 30) ∨ c = (9, 0) ∨ c = (9, 1) ∨ c = (9, 9) ∨ c = (9, 2) ∨ c = (9, 3) ∨ c = (9, 8)) → c ∉ cs := by
    intro c h1 h2
    obtain ⟨k1, k2, k3, k4, k5, k6, k7, k8, k9, k10, k11, k12⟩ := hc c h2
    rcases h1 with h1 | h1 | h1 | h1 | h1 | h1 | h1 | h1 | h1 | h1 | h1 | h1
    · exact k1 h1
    · exact k2 h1
    · exact k3 h1
    · exact k4 h1
    · exact k5 h1
    · exact k6 h1
    · exact k7 h1
    · exact k8 h1
    · exact k9 h1
    · exact k10 h1
    · exact k11 h1
    · exact k12 h1
  obtain ⟨p1, p2, p3⟩ := h.parts hE hF (by intro c hm; apply n; simp only [List.mem_cons, List.not_mem_nil, or_false] at hm; rcases hm with rfl | rfl | rfl | rfl | rfl <;> simp) (by intro c hm; apply n; simp only [List.mem_cons, List.not_mem_nil, or_false] at hm; rcases hm with rfl | rfl <;> simp)
  refine ⟨p1, h.2.1.same hE p2 (OF.fr hF (fun c hm => (hc c hm).2.1)) rfl (fun _ _ _ => rfl), h.2.2.1.same hE p3 (OF.fr hF (fun c hm => (hc c hm).1)) rfl (fun _ _ _ _ => rfl), h.wn hF (by intro c hm; apply n; simp only [List.mem_cons, List.not_mem_nil, or_false] at hm; rcases hm with rfl | rfl <;> simp) rfl rfl, h.hn hF (by intro c hm; apply n; simp only [List.mem_cons, List.not_mem_nil, or_false] at hm; rcases hm with rfl | rfl | rfl <;> simp) rfl rfl rfl, h.rn hF (by intro c hm; apply n; simp only [List.mem_cons, List.not_mem_nil, or_false] at hm; rcases hm with rfl | rfl | rfl | rfl | rfl | rfl | rfl <;> simp) (fun _ _ _ => rfl)⟩
end SRO
/-! contracts, weaker -/
theorem KC.mono {l : Launch} {dC : Nat → ClassId} {dI : Nat → Nat → Nat} {sa g : Nat → Nat} {y : MethodName} {ws : List Cond} {rm : Room} {av : List Value} {L : List Nat} {f : Nat → va_E} {sz mc ms : Nat} {post post2 : KPost} (h : KC l dC dI sa g y ws rm av L f sz post mc ms) (hp : ∀ (r : Option Value) (L' : List Nat) (f' : Nat → va_E), Ext L f L' f' → post r L' f' → post2 r L' f') : KC l dC dI sa g y ws rm av L f sz post2 mc ms := by
  intro p e ha hc hk s m args below hf hS hP hK
  obtain ⟨n, o, h1, h2, h3, ⟨⟨r, u, e1, ⟨hw, hE, hpo⟩, hB⟩, hF⟩, hL⟩ := h p e ha hc hk s m args below hf hS hP hK
  exact ⟨n, o, h1, h2, h3, ⟨⟨r, u, e1, ⟨hw, hE, hp r u.1 u.2 hE hpo⟩, hB⟩, hF⟩, hL⟩
