set_option maxHeartbeats 4000000 in
set_option maxRecDepth 100000 in
theorem law_turn {p : Program} {l : Launch} {e : Env} {s : State} {m : MethodId} {below : List Frame} {meth : Method} {c : Code} {b Ln : Nat} {xs : Nat → Int32} (hlt : l.stackTraces = false) (C0 : lw_At p s m meth c b Ln xs) (hLn : Ln ≤ 3072) {dC : Nat → ClassId} {dI : Nat → Nat → Nat} {sa : Nat → Nat} (hev : ev sa (fun q : Nat => s.heap.size ≤ q) s s.heap) {x0 rdr tok tp ka sta vaa wk vs cl ru pl tvr tc rc m0 ou : Nat} {va tv : Nat → Nat} {co : ClassId} {g gm bm : Nat → Nat} (hK : va_K (dC, dI) vwCl (tyG g ++ [(co, .long)] ++ tyM gm) s) {L : List Nat} {f : Nat → va_E} {fo : Nat → Int64} {i : Nat → Int32} {a : Nat → Nat → Int32} {H : Heap} {locs : List Loc} {ls : Array Slot} {cells slots t : Nat} {ii : Int32} (hI : LI g ((x0, rdr, tok, tp, ka, sta, vaa), (wk, vs, cl, ru, va), (pl, tvr, tc, tv), rc) ((10000 * t : Nat) : Int) L f i a) (hP : va_P (dC, dI) vwCl ((va_pl L f ++ [(ou, .inl (co, 1, .inr (.inl fo)))]) ++ mw gm m0 bm i a) H) (hD : va_D (fun q : Nat => s.heap.size ≤ q) ((va_pl L f ++ [(ou, .inl (co, 1, .inr (.inl fo)))]) ++ mw gm m0 bm i a)) (hS : va_S (fun q : Nat => s.heap.size ≤ q) s.heap H locs) (hl : lv_has ls 7 [(4, .int ii), (3, .ref ou), (2, .ref m0), (1, .ref x0), (0, .ref b)]) (hii : ii = nI (6 * t)) (ht0 : t ≤ 600) (hc0 : cells ≤ 601024) (hs0 : slots ≤ 7293034) (hcs : 6 * t + 6 ≤ Ln → cells + 303 ≤ 601024 ∧ slots + 2415 ≤ 7293034) (hk : 6 * t + 6 ≤ Ln → ∀ (L2 : List Nat) (f2 : Nat → va_E) (fo2 : Nat → Int64) (i2 : Nat → Int32) (a2 : Nat → Nat → Int32) (H : Heap) (locs : List Loc) (ls : Array Slot), LI g ((x0, rdr, tok, tp, ka, sta, vaa), (wk, vs, cl, ru, va), (pl, tvr, tc, tv), rc) ((10000 * (t + 1) : Nat) : Int) L2 f2 i2 a2 → va_P (dC, dI) vwCl ((va_pl L2 f2 ++ [(ou, .inl (co, 1, .inr (.inl fo2)))]) ++ mw gm m0 bm i2 a2) H → va_D (fun q : Nat => s.heap.size ≤ q) ((va_pl L2 f2 ++ [(ou, .inl (co, 1, .inr (.inl fo2)))]) ++ mw gm m0 bm i2 a2) → va_S (fun q : Nat => s.heap.size ≤ q) s.heap H locs → lv_has ls 7 [(4, .int ii), (3, .ref ou), (2, .ref m0), (1, .ref x0), (0, .ref b)] → W p l e room_1 s m #[Value.ref b] below meth c H locs (cells + 303) (slots + 2415) (lw_Z below #[Value.ref b] s) (F0 m 938 ls [])) : W p l e room_1 s m #[Value.ref b] below meth c H locs cells slots (lw_Z below #[Value.ref b] s) (F0 m 23 ls []) := by
  obtain ⟨hx, hb, hr, hml, hown, hts, hX, hbl, hlocks, hgv⟩ := id C0
  have hown : s.vm.findClass RL = some m.cls := hown
  have hA : ∀ q : Nat, s.heap.size ≤ q → (fun q : Nat => s.heap.size ≤ q) q := fun _ h => h
  have hbA : ¬ (fun q : Nat => s.heap.size ≤ q) b := Nat.not_le.mpr hbl
  refine lv_iload hx hb dL_law_23 (lv_at hl 0 rfl) ?_
  refine lv_aload_n hx hb dL_law_25 rfl (lv_at hl 4 rfl) ?_
  refine va_slen hx hb hX hbl hbA hS dL_law_26 ?_
  refine lv_topi (fun z_1 ez_1 => ?_)
  refine lv_bipush (v := 6) hx hb dL_law_27 (by decide) ?_
  refine lv_isub hx hb dL_law_29 ?_
  refine lv_topi (fun z_2 ez_2 => ?_)
  refine lv_icmp_gt (tgt := 944) hx hb dL_law_30 (by decide) (fun c_3 => ?_) (fun c_3 => ?_)
  · refine lv_iconst (v := 1) hx hb dL_law_944 (by decide) ?_
    refine va_forget (fun q hq => hS.2.2 q hq) ?_
    refine W.widen (k := 601024) (n := 7293034) (by omega) (by omega) ?_
    exact lw_ret hx hb hr hlocks dL_law_945
  · have ht := sc_go hii ez_1 ez_2 hLn ht0 c_3
    have hk9 := hk ht
    obtain ⟨hc1, hs1⟩ := hcs ht
    have hc : cells + 303 ≤ 601024 := by omega
    have hs : slots + 2415 ≤ 7293034 := by omega
    refine lv_aload_n hx hb dL_law_33 rfl (lv_at hl 4 rfl) ?_
    refine lv_iload hx hb dL_law_34 (lv_at hl 0 rfl) ?_
    refine va_sld hx hb hX hbl hbA hS (sc_in0 hii ht hLn) dL_law_36 ?_
    refine lv_topi (fun z_4 ez_4 => ?_)
    refine lv_bipush (v := 31) hx hb dL_law_37 (by decide) ?_
    refine lv_iand hx hb dL_law_39 ?_
    refine lv_topi (fun z_5 ez_5 => ?_)
    by_cases c_6 : z_5 = 0
    · refine lv_tableIn (tgt := 132) hx hb dL_law_40 (by rw [c_6]; decide) (by rw [c_6]; decide) (by rw [c_6]; rfl) (by decide) ?_
      exact lo_charge hlt C0 hLn hev hK hI hP hD hS (lv_sub hl [0, 1, 2, 3, 4] rfl) hii ht hc hs hk9
    by_cases c_7 : z_5 = 1
    · refine lv_tableIn (tgt := 172) hx hb dL_law_40 (by rw [c_7]; decide) (by rw [c_7]; decide) (by rw [c_7]; rfl) (by decide) ?_
      exact lo_feed hlt C0 hLn hev hK hI hP hD hS (lv_sub hl [0, 1, 2, 3, 4] rfl) hii ht hc hs hk9
    by_cases c_8 : z_5 = 2
    · refine lv_tableIn (tgt := 212) hx hb dL_law_40 (by rw [c_8]; decide) (by rw [c_8]; decide) (by rw [c_8]; rfl) (by decide) ?_
      exact lo_lime hlt C0 hLn hev hK hI hP hD hS (lv_sub hl [0, 1, 2, 3, 4] rfl) hii ht hc hs hk9
    by_cases c_9 : z_5 = 3
    · refine lv_tableIn (tgt := 240) hx hb dL_law_40 (by rw [c_9]; decide) (by rw [c_9]; decide) (by rw [c_9]; rfl) (by decide) ?_
      exact lo_hours hlt C0 hLn hev hK hI hP hD hS (lv_sub hl [0, 1, 2, 3, 4] rfl) hii ht hc hs hk9
    by_cases c_10 : z_5 = 4
    · refine lv_tableIn (tgt := 268) hx hb dL_law_40 (by rw [c_10]; decide) (by rw [c_10]; decide) (by rw [c_10]; rfl) (by decide) ?_
      exact lo_cloth hlt C0 hLn hev hK hI hP hD hS (lv_sub hl [0, 1, 2, 3, 4] rfl) hii ht hc hs hk9
    by_cases c_11 : z_5 = 5
    · refine lv_tableIn (tgt := 293) hx hb dL_law_40 (by rw [c_11]; decide) (by rw [c_11]; decide) (by rw [c_11]; rfl) (by decide) ?_
      exact lo_dip hlt C0 hLn hev hK hI hP hD hS (lv_sub hl [0, 1, 2, 3, 4] rfl) hii ht hc hs hk9
    by_cases c_12 : z_5 = 6
    · refine lv_tableIn (tgt := 345) hx hb dL_law_40 (by rw [c_12]; decide) (by rw [c_12]; decide) (by rw [c_12]; rfl) (by decide) ?_
      exact lo_treat hlt C0 hLn hev hK hI hP hD hS (lv_sub hl [0, 1, 2, 3, 4] rfl) hii ht hc hs hk9
    by_cases c_13 : z_5 = 7
    · refine lv_tableIn (tgt := 385) hx hb dL_law_40 (by rw [c_13]; decide) (by rw [c_13]; decide) (by rw [c_13]; rfl) (by decide) ?_
      exact lo_put hlt C0 hLn hev hK hI hP hD hS (lv_sub hl [0, 1, 2, 3, 4] rfl) hii ht hc hs hk9
    by_cases c_14 : z_5 = 8
    · refine lv_tableIn (tgt := 458) hx hb dL_law_40 (by rw [c_14]; decide) (by rw [c_14]; decide) (by rw [c_14]; rfl) (by decide) ?_
      exact lo_recipe hlt C0 hLn hev hK hI hP hD hS (lv_sub hl [0, 1, 2, 3, 4] rfl) hii ht hc hs hk9
    by_cases c_15 : z_5 = 9
    · refine lv_tableIn (tgt := 498) hx hb dL_law_40 (by rw [c_15]; decide) (by rw [c_15]; decide) (by rw [c_15]; rfl) (by decide) ?_
      exact lo_fault hlt C0 hLn hev hK hI hP hD hS (lv_sub hl [0, 1, 2, 3, 4] rfl) hii ht hc hs hk9
    by_cases c_16 : z_5 = 10
    · refine lv_tableIn (tgt := 526) hx hb dL_law_40 (by rw [c_16]; decide) (by rw [c_16]; decide) (by rw [c_16]; rfl) (by decide) ?_
      exact lo_run hlt C0 hLn hev hK hI hP hD hS (lv_sub hl [0, 1, 2, 3, 4] rfl) hii ht hc hs hk9
    by_cases c_17 : z_5 = 11
    · refine lv_tableIn (tgt := 578) hx hb dL_law_40 (by rw [c_17]; decide) (by rw [c_17]; decide) (by rw [c_17]; rfl) (by decide) ?_
      exact lo_ran hlt C0 hLn hev hK hI hP hD hS (lv_sub hl [0, 1, 2, 3, 4] rfl) hii ht hc hs hk9
    by_cases c_18 : z_5 = 12
    · refine lv_tableIn (tgt := 606) hx hb dL_law_40 (by rw [c_18]; decide) (by rw [c_18]; decide) (by rw [c_18]; rfl) (by decide) ?_
      exact lo_plan hlt C0 hLn hev hK hI hP hD hS (lv_sub hl [0, 1, 2, 3, 4] rfl) hii ht hc hs hk9
    by_cases c_19 : z_5 = 13
    · refine lv_tableIn (tgt := 670) hx hb dL_law_40 (by rw [c_19]; decide) (by rw [c_19]; decide) (by rw [c_19]; rfl) (by decide) ?_
      exact lo_planned hlt C0 hLn hev hK hI hP hD hS (lv_sub hl [0, 1, 2, 3, 4] rfl) hii ht hc hs hk9
    by_cases c_20 : z_5 = 14
    · refine lv_tableIn (tgt := 710) hx hb dL_law_40 (by rw [c_20]; decide) (by rw [c_20]; decide) (by rw [c_20]; rfl) (by decide) ?_
      exact lo_vat hlt C0 hLn hev hK hI hP hD hS (lv_sub hl [0, 1, 2, 3, 4] rfl) hii ht hc hs hk9
    by_cases c_21 : z_5 = 15
    · refine lv_tableIn (tgt := 750) hx hb dL_law_40 (by rw [c_21]; decide) (by rw [c_21]; decide) (by rw [c_21]; rfl) (by decide) ?_
      exact lo_about hlt C0 hLn hev hK hI hP hD hS (lv_sub hl [0, 1, 2, 3, 4] rfl) hii ht hc hs hk9
    by_cases c_22 : z_5 = 16
    · refine lv_tableIn (tgt := 790) hx hb dL_law_40 (by rw [c_22]; decide) (by rw [c_22]; decide) (by rw [c_22]; rfl) (by decide) ?_
      exact lo_count hlt C0 hLn hev hK hI hP hD hS (lv_sub hl [0, 1, 2, 3, 4] rfl) hii ht hc hs hk9
    by_cases c_23 : z_5 = 17
    · refine lv_tableIn (tgt := 818) hx hb dL_law_40 (by rw [c_23]; decide) (by rw [c_23]; decide) (by rw [c_23]; rfl) (by decide) ?_
      exact lo_faded hlt C0 hLn hev hK hI hP hD hS (lv_sub hl [0, 1, 2, 3, 4] rfl) hii ht hc hs hk9
    by_cases c_24 : z_5 = 18
    · refine lv_tableIn (tgt := 870) hx hb dL_law_40 (by rw [c_24]; decide) (by rw [c_24]; decide) (by rw [c_24]; rfl) (by decide) ?_
      exact lo_matching hlt C0 hLn hev hK hI hP hD hS (lv_sub hl [0, 1, 2, 3, 4] rfl) hii ht hc hs hk9
    refine lv_tableOut (tgt := 938) hx hb dL_law_40 (tab_out19 c_6 c_7 c_8 c_9 c_10 c_11 c_12 c_13 c_14 c_15 c_16 c_17 c_18 c_19 c_20 c_21 c_22 c_23 c_24) (by decide) ?_
    exact W.widen (by omega) (by omega) (hk9 _ _ _ _ _ _ _ _ (hI.mo (by omega)) hP hD hS (lv_sub hl [0, 1, 2, 3, 4] rfl))

set_option maxHeartbeats 4000000 in
set_option maxRecDepth 100000 in
theorem law_loop {p : Program} {l : Launch} {e : Env} {s : State} {m : MethodId} {below : List Frame} {meth : Method} {c : Code} {b Ln : Nat} {xs : Nat → Int32} (hlt : l.stackTraces = false) (C0 : lw_At p s m meth c b Ln xs) (hLn : Ln ≤ 3072) {dC : Nat → ClassId} {dI : Nat → Nat → Nat} {sa : Nat → Nat} (hev : ev sa (fun q : Nat => s.heap.size ≤ q) s s.heap) {x0 rdr tok tp ka sta vaa wk vs cl ru pl tvr tc rc m0 ou : Nat} {va tv : Nat → Nat} {co : ClassId} {g gm bm : Nat → Nat} (hK : va_K (dC, dI) vwCl (tyG g ++ [(co, .long)] ++ tyM gm) s) : ∀ (n t : Nat) (L : List Nat) (f : Nat → va_E) (fo : Nat → Int64) (i : Nat → Int32) (a : Nat → Nat → Int32) (H : Heap) (locs : List Loc) (ls : Array Slot), Ln < 6 * (t + n) + 6 → t ≤ 512 → LI g ((x0, rdr, tok, tp, ka, sta, vaa), (wk, vs, cl, ru, va), (pl, tvr, tc, tv), rc) ((10000 * t : Nat) : Int) L f i a → va_P (dC, dI) vwCl ((va_pl L f ++ [(ou, .inl (co, 1, .inr (.inl fo)))]) ++ mw gm m0 bm i a) H → va_D (fun q : Nat => s.heap.size ≤ q) ((va_pl L f ++ [(ou, .inl (co, 1, .inr (.inl fo)))]) ++ mw gm m0 bm i a) → va_S (fun q : Nat => s.heap.size ≤ q) s.heap H locs → lv_has ls 7 [(4, .int (nI (6 * t))), (3, .ref ou), (2, .ref m0), (1, .ref x0), (0, .ref b)] → W p l e room_1 s m #[Value.ref b] below meth c H locs (200 + 303 * t) (40000 + 2415 * t) (lw_Z below #[Value.ref b] s) (F0 m 23 ls []) := by
  obtain ⟨hx, hb, hr, hml, hown, hts, hX, hbl, hlocks, hgv⟩ := id C0
  have hown : s.vm.findClass RL = some m.cls := hown
  have hA : ∀ q : Nat, s.heap.size ≤ q → (fun q : Nat => s.heap.size ≤ q) q := fun _ h => h
  have hbA : ¬ (fun q : Nat => s.heap.size ≤ q) b := Nat.not_le.mpr hbl
  intro n
  induction n with
  | zero =>
    intro t L f fo i a H locs ls hn ht5 hI hP hD hS hl
    exact law_turn hlt C0 hLn hev hK hI hP hD hS hl rfl (by omega) (by omega) (by omega) (fun h => absurd h (by omega)) (fun h => absurd h (by omega))
  | succ n ih =>
    intro t L f fo i a H locs ls hn ht5 hI hP hD hS hl
    refine law_turn hlt C0 hLn hev hK hI hP hD hS hl rfl (by omega) (by omega) (by omega) (fun h => ⟨by omega, by omega⟩) ?_
    intro ht L2 f2 fo2 i2 a2 H locs ls hI hP hD hS hl
    refine lv_iinc (v := nI (6 * (t + 1))) (lv' := [(4, .int (nI (6 * (t + 1)))), (3, .ref ou), (2, .ref m0), (1, .ref x0), (0, .ref b)]) hx hb dL_law_938 hl (k := 0) rfl (by show nI (6 * t) + nI 6 = nI (6 * (t + 1)); rw [nI_add]; exact congrArg nI (by omega)) (by decide) rfl (fun ls hl => ?_)
    refine lv_goto (tgt := 23) hx hb dL_law_941 (by decide) ?_
    exact W.widen (by omega) (by omega) (ih (t + 1) L2 f2 fo2 i2 a2 H locs ls (by omega) (by omega) hI hP hD hS hl)
