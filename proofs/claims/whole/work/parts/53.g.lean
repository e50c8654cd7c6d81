noncomputable def saf (a0 a1 a2 a3 a4 : Nat) (k1 v1 : Nat → Nat) : Nat → Nat := fun k => match k with
  | 0 => a0 | 1 => a1 | 2 => a2 | 3 => a3 | 4 => a4
  | k + 5 => if k < 20 then k1 k else v1 (k - 20)
theorem saf_k {a0 a1 a2 a3 a4 : Nat} {k1 v1 : Nat → Nat} {i : Nat} (h : i < 20) : saf a0 a1 a2 a3 a4 k1 v1 (5 + i) = k1 i := by
  rw [Nat.add_comm]
  show (if i < 20 then k1 i else v1 (i - 20)) = k1 i
  rw [if_pos h]
theorem saf_v {a0 a1 a2 a3 a4 : Nat} {k1 v1 : Nat → Nat} {i : Nat} (h : i < 20) : saf a0 a1 a2 a3 a4 k1 v1 (25 + i) = v1 i := by
  rw [show 25 + i = (20 + i) + 5 by omega]
  show (if 20 + i < 20 then k1 (20 + i) else v1 (20 + i - 20)) = v1 i
  rw [if_neg (by omega), Nat.add_sub_cancel_left]

set_option maxRecDepth 100000 in
set_option maxHeartbeats 4000000 in
theorem law_ev {s : State} {b : Nat} (hts : ∀ w ∈ lw_tbl, w.before #[Value.ref b] s = true) (hgv : (Jvm.Cond.and given_1 narrow_1).before #[Value.ref b] s = true) {k8 k9 : ClassId} (h8 : s.vm.findClass RX8 = some k8) (h9 : s.vm.findClass RX9 = some k9) : ∃ sa : Nat → Nat, ev sa (fun q : Nat => s.heap.size ≤ q) s s.heap := by
  have hA : ∀ a : Nat, a < s.heap.size → ¬ (fun q : Nat => s.heap.size ≤ q) a := fun a h => Nat.not_le.mpr h
  have hs := flat_of_before _ hgv
  have z1 : vx_Zq Bundle.tN "UNASSIGNED_STACK" Bundle.steD (fun q : Nat => s.heap.size ≤ q) s s.heap := vx_Zqof (hts (.laysStatic Bundle.tN "UNASSIGNED_STACK" Bundle.steD) (gt_t2 (List.mem_of_getElem? (i := 132) (by exact rfl)))) (hts (.initialized Bundle.tN) (gt_t1 (List.mem_of_getElem? (i := 10) (by exact rfl)))) (hs (.isRef (.static Bundle.tN "UNASSIGNED_STACK" Bundle.steD)) (by decide +kernel)) hA
  have z2 : vx_Zq Bundle.tN "SUPPRESSED_SENTINEL" Bundle.listD (fun q : Nat => s.heap.size ≤ q) s s.heap := vx_Zqof (hts (.laysStatic Bundle.tN "SUPPRESSED_SENTINEL" Bundle.listD) (gt_t2 (List.mem_of_getElem? (i := 134) (by exact rfl)))) (hts (.initialized Bundle.tN) (gt_t1 (List.mem_of_getElem? (i := 10) (by exact rfl)))) (hs (.isRef (.static Bundle.tN "SUPPRESSED_SENTINEL" Bundle.listD)) (by decide +kernel)) hA
  have z3 : va_Z RJ0 "COMPACT_STRINGS" "Z" (.int 1) (fun q : Nat => s.heap.size ≤ q) s s.heap := va_Zof (hts (.laysStatic RJ0 "COMPACT_STRINGS" "Z") (gt_t3 (List.mem_of_getElem? (i := 107) (by exact rfl)))) (hts (.initialized RJ0) (gt_t1 (List.mem_of_getElem? (i := 16) (by exact rfl)))) (va_eqt (hs (.eq (.static "java/lang/String" "COMPACT_STRINGS" "Z") (.int 1)) (by decide +kernel))) hA
  have z4 : va_Zq RJ3 "SIOOBE_FORMATTER" "Ljava/util/function/BiFunction;" (fun q : Nat => s.heap.size ≤ q) s s.heap := va_Zqof (hts (.laysStatic RJ3 "SIOOBE_FORMATTER" "Ljava/util/function/BiFunction;") (gt_t3 (List.mem_of_getElem? (i := 123) (by exact rfl)))) (hts (.initialized RJ3) (gt_t1 (List.mem_of_getElem? (i := 18) (by exact rfl)))) (hs (.isRef (.static "jdk/internal/util/Preconditions" "SIOOBE_FORMATTER" "Ljava/util/function/BiFunction;")) (by decide +kernel)) hA
  obtain ⟨adK, adV, hS5, hev5⟩ := vk_Sof (args := #[Value.ref b]) (s := s) (N := 20) (tm := tmS) (len := lenS) (byt := bytS) (A := fun q : Nat => s.heap.size ≤ q) lenS_small (fun i hi => hs _ (fl_ex i hi)) (fun i hi => hs _ (fl_co i hi)) (fun i hi => hs _ (fl_ar i hi)) (fun i hi => hs _ (fl_le i hi)) (fun i hi j hj => hs _ (fl_el i hi j hj)) (fun i j hi hj hij => (fl_ne i hi j hj hij).imp (hs _) (hs _)) hA
  obtain ⟨-, -, -, s0, -, -, -, -, -, e0⟩ := Cond.stringRef_spec (args := #[Value.ref b]) (first := s) (o := none) (idx := []) h8 (hts (.stringRef RX8 22 "no such vat") (gt_t2 (List.mem_of_getElem? (i := 145) (by exact rfl))))
  obtain ⟨-, -, -, s1, -, -, -, -, -, e1⟩ := Cond.stringRef_spec (args := #[Value.ref b]) (first := s) (o := none) (idx := []) h9 (hts (.stringRef RX9 254 "out of range") (gt_t2 (List.mem_of_getElem? (i := 192) (by exact rfl))))
  obtain ⟨-, -, -, s2, -, -, -, -, -, e2⟩ := Cond.stringRef_spec (args := #[Value.ref b]) (first := s) (o := none) (idx := []) h9 (hts (.stringRef RX9 250 "no such cloth") (gt_t3 (List.mem_of_getElem? (i := 11) (by exact rfl))))
  obtain ⟨-, -, -, s3, -, -, -, -, -, e3⟩ := Cond.stringRef_spec (args := #[Value.ref b]) (first := s) (o := none) (idx := []) h9 (hts (.stringRef RX9 151 "no such what") (gt_t4 (List.mem_of_getElem? (i := 21) (by exact rfl))))
  obtain ⟨-, -, -, s4, -, -, -, -, -, e4⟩ := Cond.stringRef_spec (args := #[Value.ref b]) (first := s) (o := none) (idx := []) h9 (hts (.stringRef RX9 189 "no such dip") (gt_t4 (List.mem_of_getElem? (i := 148) (by exact rfl))))
  refine ⟨saf s0 s1 s2 s3 s4 adK adV, ⟨z1, z2⟩, ⟨vk_R.of (hts (.stringRef RX8 22 "no such vat") (gt_t2 (List.mem_of_getElem? (i := 145) (by exact rfl)))) e0, vk_R.of (hts (.stringRef RX9 254 "out of range") (gt_t2 (List.mem_of_getElem? (i := 192) (by exact rfl)))) e1, vk_R.of (hts (.stringRef RX9 250 "no such cloth") (gt_t3 (List.mem_of_getElem? (i := 11) (by exact rfl)))) e2, vk_R.of (hts (.stringRef RX9 151 "no such what") (gt_t4 (List.mem_of_getElem? (i := 21) (by exact rfl)))) e3, vk_R.of (hts (.stringRef RX9 189 "no such dip") (gt_t4 (List.mem_of_getElem? (i := 148) (by exact rfl)))) e4⟩, ⟨va_Nw.of rfl (hts (.castable NSE NSE) (gt_t2 (List.mem_of_getElem? (i := 107) (by exact rfl)))), va_Nw.of rfl (hts (.castable IAE IAE) (gt_t2 (List.mem_of_getElem? (i := 185) (by exact rfl)))), va_Nc.of (hs (.not (.castable IAE NSE)) (by decide +kernel))⟩, ⟨va_Nw.of rfl (hts (.declares (Bundle.initS "java/lang/RuntimeException")) (gt_t2 (List.mem_of_getElem? (i := 109) (by exact rfl)))), va_Nw.of rfl (hts (.declares (Bundle.initS "java/lang/Exception")) (gt_t2 (List.mem_of_getElem? (i := 111) (by exact rfl)))), va_Nw.of rfl (hts (.declares (Bundle.initS Bundle.tN)) (gt_t2 (List.mem_of_getElem? (i := 113) (by exact rfl))))⟩, ⟨va_AO.of (hts (.arrayOver (.object "VatHouse$Vat")) (gt_t1 (List.mem_of_getElem? (i := 37) (by exact rfl)))), va_AO.of (hts (.arrayOver (.object "VatHouse$Cloth")) (gt_t1 (List.mem_of_getElem? (i := 98) (by exact rfl)))), va_AO.of (hts (.arrayOver (.object "VatHouse$Recipe")) (gt_t1 (List.mem_of_getElem? (i := 162) (by exact rfl))))⟩, ⟨fun i hi => ?_, fun i j hi hj => ?_⟩, z3, z4, fun i q hq => ?_⟩
  · show va_O "java/lang/String" (saf s0 s1 s2 s3 s4 adK adV (5 + i)) _ _ _ ∧ va_OF "java/lang/String" "coder" "B" (.int 0) (saf s0 s1 s2 s3 s4 adK adV (5 + i)) _ _ _ ∧ va_OF "java/lang/String" "value" "[B" (.ref (saf s0 s1 s2 s3 s4 adK adV (25 + i))) (saf s0 s1 s2 s3 s4 adK adV (5 + i)) _ _ _ ∧ va_T .byte (saf s0 s1 s2 s3 s4 adK adV (25 + i)) _ _ _ _ _
    rw [saf_k hi, saf_v hi]
    exact hS5.1 i hi
  · show saf s0 s1 s2 s3 s4 adK adV (5 + i) = saf s0 s1 s2 s3 s4 adK adV (5 + j) → i = j
    rw [saf_k hi, saf_k hj]
    exact hS5.2 i j hi hj
  · match i, hq with
    | 0, hq => cases hq; exact vk_R.of (hts (.stringRef RX10 174 "dip") (gt_t6 (List.mem_of_getElem? (i := 2) (by exact rfl)))) (hev5 0 (by decide))
    | 1, hq => cases hq; exact vk_R.of (hts (.stringRef RX10 176 "air") (gt_t6 (List.mem_of_getElem? (i := 3) (by exact rfl)))) (hev5 1 (by decide))
    | 2, hq => cases hq; exact vk_R.of (hts (.stringRef RX10 178 "wash") (gt_t6 (List.mem_of_getElem? (i := 4) (by exact rfl)))) (hev5 2 (by decide))
    | 3, hq => cases hq; exact vk_R.of (hts (.stringRef RX10 180 "rest") (gt_t6 (List.mem_of_getElem? (i := 5) (by exact rfl)))) (hev5 3 (by decide))
    | 4, hq => cases hq; exact vk_R.of (hts (.stringRef RX10 182 "feed") (gt_t6 (List.mem_of_getElem? (i := 6) (by exact rfl)))) (hev5 4 (by decide))
    | 5, hq => cases hq; exact vk_R.of (hts (.stringRef RX10 184 "lime") (gt_t6 (List.mem_of_getElem? (i := 7) (by exact rfl)))) (hev5 5 (by decide))
    | 6, hq => cases hq; exact vk_R.of (hts (.stringRef RX10 186 "fail") (gt_t6 (List.mem_of_getElem? (i := 8) (by exact rfl)))) (hev5 6 (by decide))
    | 7, hq => cases hq; exact vk_R.of (hts (.stringRef RX10 188 "times") (gt_t6 (List.mem_of_getElem? (i := 9) (by exact rfl)))) (hev5 7 (by decide))
    | 8, hq => cases hq; exact vk_R.of (hts (.stringRef RX10 190 "until") (gt_t6 (List.mem_of_getElem? (i := 10) (by exact rfl)))) (hev5 8 (by decide))
    | 9, hq => cases hq; exact vk_R.of (hts (.stringRef RX10 192 "if") (gt_t6 (List.mem_of_getElem? (i := 11) (by exact rfl)))) (hev5 9 (by decide))
    | 10, hq => cases hq; exact vk_R.of (hts (.stringRef RX10 194 "try") (gt_t6 (List.mem_of_getElem? (i := 12) (by exact rfl)))) (hev5 10 (by decide))
    | 11, hq => cases hq; exact vk_R.of (hts (.stringRef RX10 196 "do") (gt_t6 (List.mem_of_getElem? (i := 13) (by exact rfl)))) (hev5 11 (by decide))
    | 12, hq => cases hq; exact vk_R.of (hts (.stringRef RX10 198 "last") (gt_t6 (List.mem_of_getElem? (i := 14) (by exact rfl)))) (hev5 12 (by decide))
    | 13, hq => cases hq; exact vk_R.of (hts (.stringRef RX10 200 "else") (gt_t6 (List.mem_of_getElem? (i := 15) (by exact rfl)))) (hev5 13 (by decide))
    | 14, hq => cases hq; exact vk_R.of (hts (.stringRef RX10 202 "shade") (gt_t6 (List.mem_of_getElem? (i := 16) (by exact rfl)))) (hev5 14 (by decide))
    | 15, hq => cases hq; exact vk_R.of (hts (.stringRef RX10 204 "loose") (gt_t6 (List.mem_of_getElem? (i := 17) (by exact rfl)))) (hev5 15 (by decide))
    | 16, hq => cases hq; exact vk_R.of (hts (.stringRef RX10 205 "hour") (gt_t6 (List.mem_of_getElem? (i := 18) (by exact rfl)))) (hev5 16 (by decide))
    | 17, hq => cases hq; exact vk_R.of (hts (.stringRef RX10 206 "grains") (gt_t6 (List.mem_of_getElem? (i := 19) (by exact rfl)))) (hev5 17 (by decide))
    | 18, hq => cases hq; exact vk_R.of (hts (.stringRef RX10 207 "food") (gt_t6 (List.mem_of_getElem? (i := 20) (by exact rfl)))) (hev5 18 (by decide))
    | 19, hq => cases hq; exact vk_R.of (hts (.stringRef RX6 77 "dip air wash rest feed lime fail times until if try do else last shade loose grains food hour ") (gt_t3 (List.mem_of_getElem? (i := 97) (by exact rfl)))) (hev5 19 (by decide))
    | n + 20, hq => cases hq

theorem arr_ty {U : State} {cA : ClassId} {t t2 : FieldType} (h : ArrOfT U cA t) (h2 : ArrOfT U cA t2) : t = t2 := by
  obtain ⟨-, k, g1, c1, g2⟩ := h 0 (fun _ => .null)
  obtain ⟨-, k2, f1, c2, f2⟩ := h2 0 (fun _ => .null)
  have e : some k = some k2 := g1.symm.trans f1
  cases e
  rw [g2] at f2
  cases f2
  rfl
theorem pl_of {A : Nat → Prop} {w : va_W} (hD : va_D A w) : ∃ f : Nat → va_E, va_pl (w.map (·.1)) f = w ∧ ∀ (k : Nat) (q : Nat × va_E), w[k]? = some q → f q.1 = q.2 := by
  classical
  have key : ∀ q : Nat × va_E, q ∈ w → ((w.find? (fun p => decide (p.1 = q.1))).map (·.2)).getD (.inr (0, [])) = q.2 := by
    intro q hq
    cases hf : w.find? (fun p => decide (p.1 = q.1)) with
    | none => exact absurd (List.find?_eq_none.mp hf q hq) (by simp)
    | some p =>
      have h1 : p.1 = q.1 := by simpa using List.find?_some hf
      have h2 := List.mem_of_find?_eq_some hf
      obtain ⟨i, hi⟩ := List.getElem?_of_mem h2
      obtain ⟨j, hj⟩ := List.getElem?_of_mem hq
      have := hD.1 i j p q hi hj h1
      subst this
      rw [hi] at hj
      cases hj
      rfl
  refine ⟨fun a => ((w.find? (fun p => decide (p.1 = a))).map (·.2)).getD (.inr (0, [])), ?_, fun k q hk => key q (List.mem_of_getElem? hk)⟩
  show (w.map (·.1)).map _ = w
  rw [List.map_map]
  conv => rhs; rw [← List.map_id w]
  exact List.map_congr_left fun q hq => Prod.ext rfl (key q hq)

noncomputable def hcs (x0 : Nat) (ad : Nat → Nat) (ca : Nat → ClassId) (fv fp : Nat → Option Nat) : va_W := [(x0, .inr (9, [.ref (ad 0), .ref (ad 8), .int 0, .int 0, .ref (ad 9), .int 0, .ref (ad 10), .ref (ad 15), .int 0, .ref (ad 16), .ref (ad 17)])), ((ad 0), .inr (8, [.ref (ad 1), .int 0, .int 0])), ((ad 1), .inl ((ca 1), 6, .inr (.inr (.inr (.inr fv))))), ((ad 2), .inr (7, [.int 0, .int 0, .int 0, .int 0, .int 2, .int 0, .int 0, .int (-2)])), ((ad 3), .inr (7, [.int 1, .int 0, .int 0, .int 0, .int 2, .int 0, .int 0, .int (-2)])), ((ad 4), .inr (7, [.int 2, .int 0, .int 0, .int 0, .int 2, .int 0, .int 0, .int (-2)])), ((ad 5), .inr (7, [.int 3, .int 0, .int 0, .int 0, .int 2, .int 0, .int 0, .int (-2)])), ((ad 6), .inr (7, [.int 4, .int 0, .int 0, .int 0, .int 2, .int 0, .int 0, .int (-2)])), ((ad 7), .inr (7, [.int 5, .int 0, .int 0, .int 0, .int 2, .int 0, .int 0, .int (-2)])), ((ad 8), .inl ((ca 8), 30, .inr (.inr (.inr (.inr (fun _ => none)))))), ((ad 9), .inl ((ca 9), 1500, .inl (fun _ => 0))), ((ad 10), .inr (2, [.ref (ad 11), .int 0, .int 0, .int 0, .int (-1), .int 0])), ((ad 11), .inr (6, [.ref (ad 9), .int 0, .int 0, .int 0, .ref (ad 12), .ref (ad 13), .ref (ad 14)])), ((ad 12), .inl ((ca 12), 1501, .inl (fun _ => 0))), ((ad 13), .inl ((ca 13), 1501, .inl (fun _ => 0))), ((ad 14), .inl ((ca 14), 1501, .inl (fun _ => 0))), ((ad 15), .inl ((ca 15), 8, .inr (.inr (.inr (.inr (fun _ => none)))))), ((ad 16), .inr (4, [.ref (ad 0), .int 0, .int (-1), .int 0, .int 0, .int 0, .int 0, .int 0])), ((ad 17), .inr (1, [.ref (ad 0), .ref (ad 18), .ref (ad 25), .int 0, .int 0, .int 0, .ref (ad 26), .ref (ad 27), .ref (ad 28)])), ((ad 18), .inl ((ca 18), 6, .inr (.inr (.inr (.inr fp))))), ((ad 19), .inr (7, [.int 0, .int 0, .int 0, .int 0, .int 2, .int 0, .int 0, .int (-2)])), ((ad 20), .inr (7, [.int 1, .int 0, .int 0, .int 0, .int 2, .int 0, .int 0, .int (-2)])), ((ad 21), .inr (7, [.int 2, .int 0, .int 0, .int 0, .int 2, .int 0, .int 0, .int (-2)])), ((ad 22), .inr (7, [.int 3, .int 0, .int 0, .int 0, .int 2, .int 0, .int 0, .int (-2)])), ((ad 23), .inr (7, [.int 4, .int 0, .int 0, .int 0, .int 2, .int 0, .int 0, .int (-2)])), ((ad 24), .inr (7, [.int 5, .int 0, .int 0, .int 0, .int 2, .int 0, .int 0, .int (-2)])), ((ad 25), .inr (0, [.int 0, .int 1, .int 0, .int 0, .int 0, .int (-1), .int 0, .int 0])), ((ad 26), .inl ((ca 26), 3, .inl (fun _ => 0))), ((ad 27), .inl ((ca 27), 3, .inl (fun _ => 0))), ((ad 28), .inl ((ca 28), 3, .inl (fun _ => 0)))]
noncomputable def hgf (ca : Nat → ClassId) : Nat → Nat := fun k => match k with | 0 => ca 12 | 1 => ca 9 | 2 => ca 1 | 3 => ca 8 | 4 => ca 15 | 5 => ca 13 | 6 => ca 14 | 7 => ca 26 | 8 => ca 27 | 9 => ca 28 | _ => ca 18

noncomputable def mi0 : Nat → Int32 := fun k => match k with | 24 => -1 | 44 => -1 | _ => 0
noncomputable def ma0 (fs fd ff : Nat → Int32) : Nat → Nat → Int32 := fun k => match k with | 7 => fs | 16 => fd | 34 => ff | _ => fun _ => 0
theorem VR_new {L : List Nat} {f : Nat → va_E} {b k : Nat} {s : AS} (hm : b ∈ L) (hf : f b = .inr (7, [.int (nI k), .int 0, .int 0, .int 0, .int 2, .int 0, .int 0, .int (-2)])) (h1 : s.1 1 = 0) (h4 : s.2 4 k = 0) (h5 : s.2 5 k = 0) (h6 : s.2 6 k = 0) (h7 : s.2 7 k = 2) (h8 : s.2 8 k = 0) (h9 : s.2 9 k = 0) (h10 : s.2 10 k = 0) (h11 : s.2 11 k = 0) : VR L f b k s := by
  have r : ∀ j : Nat, rd f b j = [Value.int (nI k), .int 0, .int 0, .int 0, .int 2, .int 0, .int 0, .int (-2)].getD j .null := fun j => by unfold rd; rw [hf]
  unfold VR
  rw [h4, h5, h6, h7, h8, h9, h10, h11, h1]
  exact ⟨⟨hm, by rw [hf]; rfl⟩, r 0, r 1, r 2, r 3, r 4, r 5, r 6, -2, r 7, by unfold LD; decide⟩
theorem GI_new {fs fd ff : Nat → Int32} (hfd : ∀ k, k < 30 → fd k = -1) : GI 0 (mi0, ma0 fs fd ff) := by
  have e0 : (0 : Int32).toInt = 0 := by decide
  refine ⟨⟨fun k _ => ?_, ⟨?_, fun k hk => ?_⟩, ?_, ?_⟩, fun k _ h2 => ⟨rfl, rfl, hfd k h2, rfl, rfl⟩, fun k _ => Or.inl rfl⟩
  · show (0 ≤ (0 : Int32).toInt ∧ (0 : Int32).toInt ≤ 1000000) ∧ (0 ≤ (0 : Int32).toInt ∧ (0 : Int32).toInt ≤ 1000)
    omega
  · show 0 ≤ (0 : Int32).toInt ∧ (0 : Int32).toInt ≤ 30
    omega
  · have hk : (k : Int) < (0 : Int32).toInt := hk
    omega
  · show 0 ≤ (0 : Int32).toInt
    omega
  · show (0 : Int32).toInt ≤ 0
    omega

