set_option maxHeartbeats 4000000 in
set_option maxRecDepth 100000 in
theorem law_zero {p : Program} {l : Launch} {e : Env} {s : State} {m : MethodId} {below : List Frame} {meth : Method} {c : Code} {b : Nat} (hlt : l.stackTraces = false) (C0 : lw_At p s m meth c b 54 scf) {dC : Nat → ClassId} {dI : Nat → Nat → Nat} {sa : Nat → Nat} (hev : ev sa (fun q : Nat => s.heap.size ≤ q) s s.heap) {x0 rdr tok tp ka sta vaa wk vs cl ru pl tvr tc rc m0 ou : Nat} {va tv : Nat → Nat} {co : ClassId} {g gm bm : Nat → Nat} (hK : va_K (dC, dI) vwCl (tyG g ++ [(co, .long)] ++ tyM gm) s) {L : List Nat} {f : Nat → va_E} {fo : Nat → Int64} {i : Nat → Int32} {a : Nat → Nat → Int32} {H : Heap} {locs : List Loc} {ls : Array Slot} (hI : LI g ((x0, rdr, tok, tp, ka, sta, vaa), (wk, vs, cl, ru, va), (pl, tvr, tc, tv), rc) ((10000 * 0 : Nat) : Int) L f i a) (h12 : i 12 = 0) (h1 : i 1 = 0) (q4 : a 4 0 = 0) (q5 : a 5 0 = 0) (q7 : a 7 0 = 2) (hP : va_P (dC, dI) vwCl ((va_pl L f ++ [(ou, .inl (co, 1, .inr (.inl fo)))]) ++ mw gm m0 bm i a) H) (hD : va_D (fun q : Nat => s.heap.size ≤ q) ((va_pl L f ++ [(ou, .inl (co, 1, .inr (.inl fo)))]) ++ mw gm m0 bm i a)) (hS : va_S (fun q : Nat => s.heap.size ≤ q) s.heap H locs) (hl : lv_has ls 7 [(4, .int (nI (6 * 0))), (3, .ref ou), (2, .ref m0), (1, .ref x0), (0, .ref b)]) : W p l e room_1 s m #[Value.ref b] below meth c H locs (200 + 2 * 0) (40000 + 12 * 0) (lw_Z0 below #[Value.ref b] s) (F0 m 23 ls []) := by
  have hF := hI.2.2.1.2.1
  have e12 : ((i, a).1 12).toInt ≤ ((0 : Nat) : Int) := by show (i 12).toInt ≤ _; rw [h12]; decide
  have f0 := hF 0 e12 (by decide)
  have f1 := hF 1 (Int.le_trans e12 (by decide)) (by decide)
  have q14 : a 14 0 = 0 := f0.1
  have q15 : a 15 0 = 0 := f0.2.1
  have q16 : a 16 0 = -1 := f0.2.2.1
  have q161 : a 16 1 = -1 := f1.2.2.1
  refine sp_charge (t := 0) hlt C0 (by decide) hev hK hI hP hD hS hl (by decide) (by decide) (by decide) (by decide) ?_
  intro L f fo i1 a1 H locs ls hI hR hP hD hS hl
  rw [show scf (6 * 0 + 1) = 0 from by decide, show scf (6 * 0 + 2) = 1000 from by decide] at hR
  obtain ⟨g12, g1, ea⟩ := k_ch q4 hR
  have h12 : i1 12 = 0 := g12.trans h12
  have h1 : i1 1 = 0 := g1.trans h1
  have q4 : a1 4 0 = 1000 := by rw [ea]; exact rfl
  have q5 : a1 5 0 = 0 := by rw [ea]; exact q5
  have q7 : a1 7 0 = 2 := by rw [ea]; exact q7
  have q14 : a1 14 0 = 0 := by rw [ea]; exact q14
  have q15 : a1 15 0 = 0 := by rw [ea]; exact q15
  have q16 : a1 16 0 = -1 := by rw [ea]; exact q16
  have q161 : a1 16 1 = -1 := by rw [ea]; exact q161
  refine sp_feed (t := 1) hlt C0 (by decide) hev hK hI hP hD hS hl (by decide) (by decide) (by decide) (by decide) ?_
  intro L f fo i2 a2 H locs ls hI hR hP hD hS hl
  rw [show scf (6 * 1 + 1) = 0 from by decide, show scf (6 * 1 + 2) = 4 from by decide] at hR
  obtain ⟨g12, g1, ea⟩ := k_fd q5 q7 hR
  have h12 : i2 12 = 0 := g12.trans h12
  have h1 : i2 1 = 0 := g1.trans h1
  have q4 : a2 4 0 = 1000 := by rw [ea]; exact q4
  have q5 : a2 5 0 = 4 := by rw [ea]; exact rfl
  have q7 : a2 7 0 = 2 := by rw [ea]; exact rfl
  have q14 : a2 14 0 = 0 := by rw [ea]; exact q14
  have q15 : a2 15 0 = 0 := by rw [ea]; exact q15
  have q16 : a2 16 0 = -1 := by rw [ea]; exact q16
  have q161 : a2 16 1 = -1 := by rw [ea]; exact q161
  refine sp_lime (t := 2) hlt C0 (by decide) hev hK hI hP hD hS hl (by decide) (by decide) (by decide) (by decide) ?_
  intro L f fo i3 a3 H locs ls hI hR hP hD hS hl
  rw [show scf (6 * 2 + 1) = 0 from by decide] at hR
  obtain ⟨g12, g1, ea⟩ := k_lm q5 q7 hR
  have h12 : i3 12 = 0 := g12.trans h12
  have h1 : i3 1 = 0 := g1.trans h1
  have q4 : a3 4 0 = 1000 := by rw [ea]; exact q4
  have q5 : a3 5 0 = 2 := by rw [ea]; exact rfl
  have q7 : a3 7 0 = 1 := by rw [ea]; exact rfl
  have q14 : a3 14 0 = 0 := by rw [ea]; exact q14
  have q15 : a3 15 0 = 0 := by rw [ea]; exact q15
  have q16 : a3 16 0 = -1 := by rw [ea]; exact q16
  have q161 : a3 16 1 = -1 := by rw [ea]; exact q161
  refine sp_cloth (t := 3) hlt C0 (by decide) hev hK hI hP hD hS hl (by decide) (by decide) (by decide) (by decide) ?_
  intro L f fo i4 a4 H locs ls hI hR hP hD hS hl
  rw [show scf (6 * 3 + 1) = 1 from by decide] at hR
  obtain ⟨g12, g1, ea⟩ := k_cl h12 (by decide) hR
  have h12 : i4 12 = 1 := g12
  have h1 : i4 1 = 0 := g1.trans h1
  have q4 : a4 4 0 = 1000 := by rw [ea]; exact q4
  have q5 : a4 5 0 = 2 := by rw [ea]; exact q5
  have q7 : a4 7 0 = 1 := by rw [ea]; exact q7
  have q14 : a4 14 0 = 0 := by rw [ea]; exact q14
  have q15 : a4 15 0 = 0 := by rw [ea]; exact q15
  have q16 : a4 16 0 = -1 := by rw [ea]; exact q16
  have q161 : a4 16 1 = -1 := by rw [ea]; exact q161
  have q13 : a4 13 0 = 1 := by rw [ea]; exact rfl
  refine sp_cloth (t := 4) hlt C0 (by decide) hev hK hI hP hD hS hl (by decide) (by decide) (by decide) (by decide) ?_
  intro L f fo i5 a5 H locs ls hI hR hP hD hS hl
  rw [show scf (6 * 4 + 1) = 1 from by decide] at hR
  obtain ⟨g12, g1, ea⟩ := k_cl h12 (by decide) hR
  have h12 : i5 12 = 2 := g12
  have h1 : i5 1 = 0 := g1.trans h1
  have q4 : a5 4 0 = 1000 := by rw [ea]; exact q4
  have q5 : a5 5 0 = 2 := by rw [ea]; exact q5
  have q7 : a5 7 0 = 1 := by rw [ea]; exact q7
  have q14 : a5 14 0 = 0 := by rw [ea]; exact q14
  have q15 : a5 15 0 = 0 := by rw [ea]; exact q15
  have q16 : a5 16 0 = -1 := by rw [ea]; exact q16
  have q161 : a5 16 1 = -1 := by rw [ea]; exact q161
  have q13 : a5 13 0 = 1 := by rw [ea]; exact q13
  refine sp_treat (t := 5) hlt C0 (by decide) hev hK hI hP hD hS hl (by decide) (by decide) (by decide) (by decide) ?_
  intro L f fo i6 a6 H locs ls hI hR hP hD hS hl
  rw [show scf (6 * 5 + 1) = 1 from by decide, show scf (6 * 5 + 2) = 2 from by decide] at hR
  obtain ⟨g12, d1, er, e14, e15, e16⟩ := k_tr h12 h1 q161 hR
  have hp := k_pl (i := i6) (a := a6) g12 (by rw [er 4 (by decide) (by decide) (by decide)]; exact q4) (by rw [er 5 (by decide) (by decide) (by decide)]; exact q5) (by rw [er 7 (by decide) (by decide) (by decide)]; exact q7) (by rw [er 13 (by decide) (by decide) (by decide)]; exact q13) (e14.trans q14) (e15.trans q15) (e16.trans q16)
  obtain ⟨kq, hkq⟩ := hI.1.1.k5n (hI.1.at 11 rfl)
  refine sp_plan (t := 6) hlt C0 (by decide) hev hK hI hP hD hS hl (by decide) (by decide) (by decide) (by decide) hkq ?_
  intro L f fo i7 a7 H locs ls hI hR hP hD hS hl
  rw [show scf (6 * 6 + 1) = 0 from by decide, show scf (6 * 6 + 2) = 1 from by decide, show scf (6 * 6 + 3) = 1000 from by decide, show scf (6 * 6 + 4) = 1 from by decide] at hR
  obtain ⟨r1, r2, o8, p8, k8⟩ := hR
  rw [c_00] at k8
  have e8 := p8.one hp
  subst e8
  obtain ⟨-, k5, hk5, -, hx5⟩ := k8 rfl
  have hx5 : (nI 1 = -1 ∧ k5 = 0) ∨ nI 1 = k5 := hx5 (e16.trans q16)
  have hk1 : k5 = 1 := by
    rcases hx5 with h9 | h9
    · exact absurd h9.1 (by decide)
    · rw [← h9]; decide
  have h12 : i7 12 = 2 := (r1 12 (by decide) (by decide)).trans g12
  have hd : ¬ a7 16 1 = -1 := by rw [r2 16 (by decide), d1]; decide
  refine sp_plan (t := 7) hlt C0 (by decide) hev hK hI hP hD hS hl (by decide) (by decide) (by decide) (by decide) hk5 ?_
  intro L f fo i8 a8 H locs ls hI hR hP hD hS hl
  rw [show scf (6 * 7 + 1) = 1 from by decide, show scf (6 * 7 + 2) = 0 from by decide, show scf (6 * 7 + 3) = 0 from by decide, show scf (6 * 7 + 4) = 0 from by decide] at hR
  obtain ⟨-, -, o9, p9, k9⟩ := hR
  rw [c_11] at k9
  have e9 := p9.one (k_dr h12 hd)
  subst e9
  obtain ⟨h46, k6, hk6, hy6, -⟩ := k9 rfl
  have hk2 : k6 = 1 := (hy6 hd).trans hk1
  exact tn_planned (t := 8) hlt C0 (by decide) hev hK hI hP hD hS hl rfl (by decide) (by decide) (by decide) (by decide) (lo_planned (t := 8) hlt C0 (by decide) hev hK hI hP hD hS hl rfl (by decide) (by decide) (by decide) hk6 hk2 (by decide) (by decide) (h46 rfl))
