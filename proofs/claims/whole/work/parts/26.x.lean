/-! what the law keeps of the house: the known cells, the tape, the fault -/
noncomputable abbrev HA : Type := Nat × Nat × Nat × Nat × Nat × Nat × Nat
/-- the house, its reader, its tokens, the tape, the three rows -/
noncomputable def RLs (g : Nat → Nat) (h : HA) : List (Nat × shp) := match h with
  | (x0, rdr, tok, tp, ka, sta, vaa) => [(x0, (0, 9, 0)), (rdr, (0, 2, 0)), (tok, (0, 6, 0)), (tp, (1, g 1, 1500)), (ka, (1, g 0, 1501)), (sta, (1, g 5, 1501)), (vaa, (1, g 6, 1501))]
noncomputable def RF (h : HA) (f : Nat → va_E) : Prop := match h with
  | (x0, rdr, tok, tp, ka, sta, vaa) => (rd f x0 4 = .ref tp ∧ rd f x0 6 = .ref rdr ∧ rd f rdr 0 = .ref tok ∧ rd f tok 0 = .ref tp ∧ rd f tok 4 = .ref ka ∧ rd f tok 5 = .ref sta ∧ rd f tok 6 = .ref vaa) ∧ ka ≠ sta ∧ ka ≠ vaa ∧ sta ≠ vaa
noncomputable def CN (h : HA) (f : Nat → va_E) (tl fa pw : Int32) (tt : Nat → Int32) : Prop := rd f h.1 5 = .int tl ∧ rd f h.2.1 3 = .int fa ∧ rd f h.2.1 4 = .int pw ∧ ia f h.2.2.2.1 = tt
theorem RF.fr {g : Nat → Nat} {h : HA} {L : List Nat} {f f' : Nat → va_E} {cs : List (Nat × Nat)} (hR : RF h f) (hT : TP g L f (RLs g h)) (hF : Fr cs L f f') (hc : ∀ c ∈ [(9, 4), (9, 6), (2, 0), (6, 0), (6, 4), (6, 5), (6, 6)], c ∉ cs) : RF h f' := by
  obtain ⟨x0, rdr, tok, tp, ka, sta, vaa⟩ := h
  obtain ⟨⟨h1, h2, h3, h4, h5, h6, h7⟩, hd⟩ := hR
  have a0 := hT.at 0 rfl
  have a1 := hT.at 1 rfl
  have a2 := hT.at 2 rfl
  refine ⟨⟨(hF.1 x0 a0.1 9 a0.2 4 (hc _ (by decide))).trans h1, (hF.1 x0 a0.1 9 a0.2 6 (hc _ (by decide))).trans h2, (hF.1 rdr a1.1 2 a1.2 0 (hc _ (by decide))).trans h3, (hF.1 tok a2.1 6 a2.2 0 (hc _ (by decide))).trans h4, (hF.1 tok a2.1 6 a2.2 4 (hc _ (by decide))).trans h5, (hF.1 tok a2.1 6 a2.2 5 (hc _ (by decide))).trans h6, (hF.1 tok a2.1 6 a2.2 6 (hc _ (by decide))).trans h7⟩, hd⟩
theorem CN.fr {g : Nat → Nat} {h : HA} {L : List Nat} {f f' : Nat → va_E} {cs : List (Nat × Nat)} {tl fa pw : Int32} {tt : Nat → Int32} (hR : CN h f tl fa pw tt) (hT : TP g L f (RLs g h)) (hF : Fr cs L f f') (hc : ∀ c ∈ [(9, 5), (2, 3), (2, 4), (100, 1500)], c ∉ cs) : CN h f' tl fa pw tt := by
  obtain ⟨x0, rdr, tok, tp, ka, sta, vaa⟩ := h
  obtain ⟨h1, h2, h3, h4⟩ := hR
  have a0 := hT.at 0 rfl
  have a1 := hT.at 1 rfl
  have a3 := hT.at 3 rfl
  exact ⟨(hF.1 x0 a0.1 9 a0.2 5 (hc _ (by decide))).trans h1, (hF.1 rdr a1.1 2 a1.2 3 (hc _ (by decide))).trans h2, (hF.1 rdr a1.1 2 a1.2 4 (hc _ (by decide))).trans h3, (ia_eq (hF.2 tp a3.1 0 _ _ a3.2 (hc _ (by decide)))).trans h4⟩
/-- the two sides' tapes and faults are alike -/
noncomputable def AL (h : HA) (f : Nat → va_E) (i : Nat → Int32) (a : Nat → Nat → Int32) : Prop := ∃ tt : Nat → Int32, CN h f (i 20) (i 23) (i 24) tt ∧ ∀ p : Nat, (p : Int) < (i 20).toInt → agb (tt p) (a 19 p)
