section PLS
variable {s s' : AS} {m k c : Nat} {x : Int32} {u u' : Int32 × AS}
theorem EvR.st (e : s = s') (h : EvR m x k c s u) : EvR m x k c s' u := e ▸ h
theorem EvR.ou (e : u = u') (h : EvR m x k c s u) : EvR m x k c s u' := e ▸ h
theorem BR.st (e : s = s') (h : BR k c s u) : BR k c s' u := e ▸ h
theorem BR.ou (e : u = u') (h : BR k c s u) : BR k c s u' := e ▸ h
theorem dpA_o {v : Nat} {n : Int32} : (dpA s c v n).2.1 1 = s.1 1 ∧ (dpA s c v n).2.1 2 = s.1 2 ∧ (dpA s c v n).2.1 40 = s.1 40 ∧ (dpA s c v n).2.1 43 = s.1 43 ∧ (dpA s c v n).2.2 11 = s.2 11 ∧ (dpA s c v n).2.2 15 = s.2 15 := by
  unfold dpA
  split
  · exact ⟨rfl, rfl, rfl, rfl, rfl, rfl⟩
  · split
    · exact ⟨rfl, rfl, rfl, rfl, rfl, rfl⟩
    · exact ⟨rfl, rfl, rfl, rfl, rfl, rfl⟩
theorem reA_o : ∀ (n : Nat) (s : AS), (reA n s).2.1 2 = s.1 2 ∧ (reA n s).2.1 41 = s.1 41 ∧ (reA n s).2.1 42 = s.1 42 ∧ (reA n s).2.2 4 = s.2 4 ∧ (reA n s).2.2 8 = s.2 8 ∧ (reA n s).2.2 9 = s.2 9 ∧ (reA n s).2.2 14 = s.2 14 ∧ (reA n s).2.2 15 = s.2 15 ∧ (reA n s).2.2 17 = s.2 17 ∧ (reA n s).2.2 18 = s.2 18 := by
  intro n
  induction n with
  | zero => intro s; exact ⟨rfl, rfl, rfl, rfl, rfl, rfl, rfl, rfl, rfl, rfl⟩
  | succ n ih =>
    intro s
    unfold reA
    split
    · exact ⟨rfl, rfl, rfl, rfl, rfl, rfl, rfl, rfl, rfl, rfl⟩
    · exact ih (h1A s)
theorem FK.pl : FK s (plA s k c).2 := by
  unfold plA
  split
  · exact FK.dp
  split
  · unfold arR; split
    · exact FK.rf
    · exact FK.ai
  split
  · exact FK.wa
  split
  · exact FK.re _ _
  split
  · exact FK.fe
  split
  · unfold lmR; split
    · exact FK.lm
    · exact FK.rf
  exact FK.rf
theorem pl_k7 {n : Int32} (h : s.2 26 k = n) (h7 : n < 7) : s.2 26 k < 7 := by rw [h]; exact h7
theorem nb_7 {z : Int32} (h : 0 ≤ z.toInt) (c0 : ¬ z = 0) (c1 : ¬ z = 1) (c2 : ¬ z = 2) (c3 : ¬ z = 3) (c4 : ¬ z = 4) (c5 : ¬ z = 5) (c6 : ¬ z = 6) : ¬ z < 7 := fun g => by
  rw [Int32.lt_iff_toInt_lt] at g
  rw [← Int32.toInt_inj] at c0 c1 c2 c3 c4 c5 c6
  have e0 : (0 : Int32).toInt = 0 := by decide
  have e1 : (1 : Int32).toInt = 1 := by decide
  have e2 : (2 : Int32).toInt = 2 := by decide
  have e3 : (3 : Int32).toInt = 3 := by decide
  have e4 : (4 : Int32).toInt = 4 := by decide
  have e5 : (5 : Int32).toInt = 5 := by decide
  have e6 : (6 : Int32).toInt = 6 := by decide
  have e7 : (7 : Int32).toInt = 7 := by decide
  omega
end PLS

noncomputable abbrev rm_X10_rowE (V : Nat → Prop) (dp : Nat → Nat) (j : Nat) (dl : Nat) : Room := { frames := 3 * j + 40, cells := 0, slots := 0, locals := 100 * j + 700 }
noncomputable abbrev rm_X10_doesE (V : Nat → Prop) (dp : Nat → Nat) (j : Nat) (dl : Nat) : Room := { frames := 3 * j + 39, cells := 0, slots := 0, locals := 100 * j + 666 }
noncomputable abbrev rm_X10_doesBlocksE (V : Nat → Prop) (dp : Nat → Nat) (j : Nat) (dl : Nat) : Room := { frames := 3 * j + 38, cells := 0, slots := 0, locals := 100 * j + 633 }
set_option maxHeartbeats 2000000 in
set_option maxRecDepth 100000 in
theorem m_X10_doesBlocksE (l : Launch) (dC : Nat → ClassId) (dI : Nat → Nat → Nat) (sa : Nat → Nat) (g : Nat → Nat) (h0 : Nat) (b : Nat → Nat) (V : Nat → Prop) (dp : Nat → Nat) (j : Nat) (dl : Nat) (i : Nat → Int32) (a : Nat → Nat → Int32) (kk : Int32) (ck : Int32) (sz : Nat) (hND : ND V dp (a 26) (a 27) (a 31) (a 32) (a 33)) (hj : dl + j = 9) (hnode : ∃ q : Nat, kk = nI q ∧ V q ∧ dp q = dl) (hc30 : vp_in ck 30) (hwt : 1 ≤ ((a 13) ck.toNatClampNeg).toInt ∧ ((a 13) ck.toNatClampNeg).toInt ≤ 50) (hL : (i 40).toInt ≤ (i 39).toInt) (h01 : H01 (a 10)) (hk0 : ∀ k : Nat, V k → 0 ≤ ((a 26) k).toInt) (IHR : ∀ j' dl' : Nat, dl' + j' = 9 → j = j' + 1 → ∀ (i : Nat → Int32) (a : Nat → Nat → Int32) (hn : Int32) (ck : Int32) (sz : Nat) (hND : ND V dp (a 26) (a 27) (a 31) (a 32) (a 33)) (hlk0 : lk V dp dl' hn) (hc30 : vp_in ck 30) (hwt : 1 ≤ ((a 13) ck.toNatClampNeg).toInt ∧ ((a 13) ck.toNatClampNeg).toInt ≤ 50) (hL : (i 40).toInt ≤ (i 39).toInt) (h01 : H01 (a 10)) (hk0 : ∀ k : Nat, V k → 0 ≤ ((a 26) k).toInt), CT l dC dI sa yX10_row wsX10_row (rm_X10_rowE V dp j' dl') [.ref h0, .int hn, .int ck] (mw g h0 b i a) (tyM g) sz (fun (r : Option Value) (u : Int32 × Int32 × Int32 × Int32 × Int32 × Int32 × (Nat → Int32) × (Nat → Int32) × (Nat → Int32) × (Nat → Int32) × (Nat → Int32) × (Nat → Int32) × (Nat → Int32) × (Nat → Int32) × (Nat → Int32) × (Nat → Int32) × (Nat → Int32) × (Nat → Int32)) => match u with | (x1, x2, x40, x41, x42, x43, y4, y5, y6, y7, y8, y9, y10, y11, y14, y15, y17, y18) => (∃ z : Int32, r = some (.int z) ∧ (EvR 0 hn 0 ck.toNatClampNeg (i, a) (z, (rbI i x1 x2 x40 x41 x42 x43, rbA a y4 y5 y6 y7 y8 y9 y10 y11 y14 y15 y17 y18)))) ∧ ((i 40).toInt ≤ x40.toInt ∧ x40.toInt ≤ (i 39).toInt ∧ H01 y10)) (fun (u : Int32 × Int32 × Int32 × Int32 × Int32 × Int32 × (Nat → Int32) × (Nat → Int32) × (Nat → Int32) × (Nat → Int32) × (Nat → Int32) × (Nat → Int32) × (Nat → Int32) × (Nat → Int32) × (Nat → Int32) × (Nat → Int32) × (Nat → Int32) × (Nat → Int32)) => match u with | (x1, x2, x40, x41, x42, x43, y4, y5, y6, y7, y8, y9, y10, y11, y14, y15, y17, y18) => mw g h0 b (va_up (va_up (va_up (va_up (va_up (va_up i 1 x1) 2 x2) 40 x40) 41 x41) 42 x42) 43 x43) (va_up (va_up (va_up (va_up (va_up (va_up (va_up (va_up (va_up (va_up (va_up (va_up a 4 y4) 5 y5) 6 y6) 7 y7) 8 y8) 9 y9) 10 y10) 11 y11) 14 y14) 15 y15) 17 y17) 18 y18)) (fun _ => []) 0 0) : CT l dC dI sa yX10_doesBlocks wsX10_doesBlocks (rm_X10_doesBlocksE V dp j dl) [.ref h0, .int kk, .int ck] (mw g h0 b i a) (tyM g) sz (fun (r : Option Value) (u : Int32 × Int32 × Int32 × Int32 × Int32 × Int32 × (Nat → Int32) × (Nat → Int32) × (Nat → Int32) × (Nat → Int32) × (Nat → Int32) × (Nat → Int32) × (Nat → Int32) × (Nat → Int32) × (Nat → Int32) × (Nat → Int32) × (Nat → Int32) × (Nat → Int32)) => match u with | (x1, x2, x40, x41, x42, x43, y4, y5, y6, y7, y8, y9, y10, y11, y14, y15, y17, y18) => (∃ z : Int32, r = some (.int z) ∧ (BR kk.toNatClampNeg ck.toNatClampNeg (i, a) (z, (rbI i x1 x2 x40 x41 x42 x43, rbA a y4 y5 y6 y7 y8 y9 y10 y11 y14 y15 y17 y18)))) ∧ ((i 40).toInt ≤ x40.toInt ∧ x40.toInt ≤ (i 39).toInt ∧ H01 y10)) (fun (u : Int32 × Int32 × Int32 × Int32 × Int32 × Int32 × (Nat → Int32) × (Nat → Int32) × (Nat → Int32) × (Nat → Int32) × (Nat → Int32) × (Nat → Int32) × (Nat → Int32) × (Nat → Int32) × (Nat → Int32) × (Nat → Int32) × (Nat → Int32) × (Nat → Int32)) => match u with | (x1, x2, x40, x41, x42, x43, y4, y5, y6, y7, y8, y9, y10, y11, y14, y15, y17, y18) => mw g h0 b (va_up (va_up (va_up (va_up (va_up (va_up i 1 x1) 2 x2) 40 x40) 41 x41) 42 x42) 43 x43) (va_up (va_up (va_up (va_up (va_up (va_up (va_up (va_up (va_up (va_up (va_up (va_up a 4 y4) 5 y5) 6 y6) 7 y7) 8 y8) 9 y9) 10 y10) 11 y11) 14 y14) 15 y15) 17 y17) 18 y18)) (fun _ => []) 0 0 := by
  refine CT.start (cc := cX10_doesBlocks) (maxL := 5) (ret := (some .int)) (by decide) rfl (Nat.le_of_ble_eq_true rfl) ?_
  intro p e s m below meth c ls hst hP hK hD hev hS hl
  obtain ⟨hx, hb, hr, hml, hts, hown, hlocks, hin⟩ := hst
  have hown : s.vm.findClass RX10 = some m.cls := hown
  have hA : ∀ q : Nat, s.heap.size ≤ q → va_A (mw g h0 b i a) s.heap.size q := fun _ h => Or.inr h
  have hl : lv_has ls 5 [(0, .ref h0), (1, .int kk), (2, .int ck)] := hl
  obtain ⟨q, hq, hVq, hdq⟩ := hnode
  have hq27 := (hND q hVq).1
  have hkq : kk.toNatClampNeg = q := by rw [hq]; exact nI_clamp (by omega)
  have hk : vp_in kk 2700 := by rw [hq]; exact vp_in_nI hq27 (by decide)
  have hd8 := (hND q hVq).2.1
  obtain ⟨j1, hj1⟩ : ∃ j1, j = j1 + 1 := ⟨j - 1, by omega⟩
  refine lv_iconst (v := 0) hx hb dX10_doesBlocks_0 (by decide) ?_
  refine lv_istore_n (lv' := [(3, .int 0), (0, .ref h0), (1, .int kk), (2, .int ck)]) hx hb dX10_doesBlocks_1 rfl hl (by decide) rfl (fun ls hl => ?_)
  refine lv_aload_n hx hb dX10_doesBlocks_2 rfl (lv_at hl 1 rfl) ?_
  refine va_get (D := (dC, dI)) (ci := 10) (v := .ref (b 26)) (C := RX10) (T := TX10) (N := 51) hx hb hts inw_X10_doesBlocks_10 hown hK hP 0 rfl rfl 26 (by decide) (hts (.fieldLink RX10 60 "VatHouseModel" "kind" "[I") (List.mem_of_getElem? (i := 1) (by exact rfl))) (fun _ h9 => h9) rfl dX10_doesBlocks_3 ?_
  refine lv_iload_n hx hb dX10_doesBlocks_6 rfl (lv_at hl 2 rfl) ?_
  refine va_iald hx hb hK hP 16 15 rfl rfl (by assumption) dX10_doesBlocks_7 ?_
  refine lv_topi (fun z_1 ez_1 => ?_)
  have ez_1 : z_1 = (a 26) kk.toNatClampNeg := ez_1
  by_cases c_2 : z_1 = 7
  · refine lv_tableIn (tgt := 40) hx hb dX10_doesBlocks_8 (by rw [c_2]; decide) (by rw [c_2]; decide) (by rw [c_2]; rfl) (by decide) ?_
    refine lv_iconst (v := 0) hx hb dX10_doesBlocks_40 (by decide) ?_
    refine lv_istore (lv' := [(4, .int 0), (3, .int 0), (0, .ref h0), (1, .int kk), (2, .int ck)]) hx hb dX10_doesBlocks_41 hl (by decide) rfl (fun ls hl => ?_)
    have lp : ∀ (n : Nat) (en : Int32) (zz : Int32) (l1 : Int32) (l2 : Int32) (l40 : Int32) (l41 : Int32) (l42 : Int32) (l43 : Int32) (l4 : Nat → Int32) (l5 : Nat → Int32) (l6 : Nat → Int32) (l7 : Nat → Int32) (l8 : Nat → Int32) (l9 : Nat → Int32) (l10 : Nat → Int32) (l11 : Nat → Int32) (l14 : Nat → Int32) (l15 : Nat → Int32) (l17 : Nat → Int32) (l18 : Nat → Int32) (H : Heap) (locs : List Loc) (ls : Array Slot), ((en = 0 → ((i 39).toInt - l40.toInt).toNat + 1 < n) ∧ 0 < n) → (l40.toInt ≤ (i 39).toInt) → ((i 40).toInt ≤ l40.toInt) → (H01 l10) → (∀ u : Int32 × AS, ((en = 0 ∧ EvR 2 zz kk.toNatClampNeg ck.toNatClampNeg (rbI i l1 l2 l40 l41 l42 l43, rbA a l4 l5 l6 l7 l8 l9 l10 l11 l14 l15 l17 l18) u) ∨ (¬ en = 0 ∧ u = (en, (rbI i l1 l2 l40 l41 l42 l43, rbA a l4 l5 l6 l7 l8 l9 l10 l11 l14 l15 l17 l18)))) → EvR 2 0 kk.toNatClampNeg ck.toNatClampNeg (i, a) u) → va_P (dC, dI) vwCl (mw g h0 b (va_up (va_up (va_up (va_up (va_up (va_up i 1 l1) 2 l2) 40 l40) 41 l41) 42 l42) 43 l43) (va_up (va_up (va_up (va_up (va_up (va_up (va_up (va_up (va_up (va_up (va_up (va_up a 4 l4) 5 l5) 6 l6) 7 l7) 8 l8) 9 l9) 10 l10) 11 l11) 14 l14) 15 l15) 17 l17) 18 l18)) H → va_D (va_A (mw g h0 b i a) s.heap.size) (mw g h0 b (va_up (va_up (va_up (va_up (va_up (va_up i 1 l1) 2 l2) 40 l40) 41 l41) 42 l42) 43 l43) (va_up (va_up (va_up (va_up (va_up (va_up (va_up (va_up (va_up (va_up (va_up (va_up a 4 l4) 5 l5) 6 l6) 7 l7) 8 l8) 9 l9) 10 l10) 11 l11) 14 l14) 15 l15) 17 l17) 18 l18)) → va_S (va_A (mw g h0 b i a) s.heap.size) s.heap H locs → lv_has ls 5 [(3, .int en), (4, .int zz), (0, .ref h0), (1, .int kk), (2, .int ck)] → W p l e (rm_X10_doesBlocksE V dp j dl) s m [.ref h0, .int kk, .int ck].toArray below meth c H locs 0 0 (MQ below (Qg (fun (r : Option Value) (u : Int32 × Int32 × Int32 × Int32 × Int32 × Int32 × (Nat → Int32) × (Nat → Int32) × (Nat → Int32) × (Nat → Int32) × (Nat → Int32) × (Nat → Int32) × (Nat → Int32) × (Nat → Int32) × (Nat → Int32) × (Nat → Int32) × (Nat → Int32) × (Nat → Int32)) => match u with | (x1, x2, x40, x41, x42, x43, y4, y5, y6, y7, y8, y9, y10, y11, y14, y15, y17, y18) => (∃ z : Int32, r = some (.int z) ∧ (BR kk.toNatClampNeg ck.toNatClampNeg (i, a) (z, (rbI i x1 x2 x40 x41 x42 x43, rbA a y4 y5 y6 y7 y8 y9 y10 y11 y14 y15 y17 y18)))) ∧ ((i 40).toInt ≤ x40.toInt ∧ x40.toInt ≤ (i 39).toInt ∧ H01 y10)) (fun u t => QW dC dI (va_A (mw g h0 b i a) s.heap.size) ((fun (u : Int32 × Int32 × Int32 × Int32 × Int32 × Int32 × (Nat → Int32) × (Nat → Int32) × (Nat → Int32) × (Nat → Int32) × (Nat → Int32) × (Nat → Int32) × (Nat → Int32) × (Nat → Int32) × (Nat → Int32) × (Nat → Int32) × (Nat → Int32) × (Nat → Int32)) => match u with | (x1, x2, x40, x41, x42, x43, y4, y5, y6, y7, y8, y9, y10, y11, y14, y15, y17, y18) => mw g h0 b (va_up (va_up (va_up (va_up (va_up (va_up i 1 x1) 2 x2) 40 x40) 41 x41) 42 x42) 43 x43) (va_up (va_up (va_up (va_up (va_up (va_up (va_up (va_up (va_up (va_up (va_up (va_up a 4 y4) 5 y5) 6 y6) 7 y7) 8 y8) 9 y9) 10 y10) 11 y11) 14 y14) 15 y15) 17 y17) 18 y18)) u) [] t) (va_A (mw g h0 b i a) s.heap.size)) [.ref h0, .int kk, .int ck].toArray s 0 0 (va_A (mw g h0 b i a) s.heap.size)) (F0 m 43 ls []) := by
      intro n
      induction n with
      | zero => intro en zz l1 l2 l40 l41 l42 l43 l4 l5 l6 l7 l8 l9 l10 l11 l14 l15 l17 l18 H locs ls hm hLl hge h1l hcn hP hD hS hl; exact absurd hm.2 (by omega)
      | succ n ih =>
        intro en zz l1 l2 l40 l41 l42 l43 l4 l5 l6 l7 l8 l9 l10 l11 l14 l15 l17 l18 H locs ls hm hLl hge h1l hcn hP hD hS hl
        refine lv_iload hx hb dX10_doesBlocks_43 (lv_at hl 1 rfl) ?_
        refine lv_aload_n hx hb dX10_doesBlocks_45 rfl (lv_at hl 2 rfl) ?_
        refine va_get (D := (dC, dI)) (ci := 10) (v := .ref (b 27)) (C := RX10) (T := TX10) (N := 51) hx hb hts inw_X10_doesBlocks_10 hown hK hP 0 rfl rfl 27 (by decide) (hts (.fieldLink RX10 63 "VatHouseModel" "one" "[I") (List.mem_of_getElem? (i := 2) (by exact rfl))) (fun _ h9 => h9) rfl dX10_doesBlocks_46 ?_
        refine lv_iload_n hx hb dX10_doesBlocks_49 rfl (lv_at hl 3 rfl) ?_
        refine va_iald hx hb hK hP 17 16 rfl rfl (by assumption) dX10_doesBlocks_50 ?_
        refine lv_topi (fun z_3 ez_3 => ?_)
        have ez_3 : z_3 = (a 27) kk.toNatClampNeg := ez_3
        refine lv_icmp_ge (tgt := 89) hx hb dX10_doesBlocks_51 (by decide) (fun c_4 => ?_) (fun c_4 => ?_)
        · have nc_4 := le_i c_4
          refine lv_iload_n hx hb dX10_doesBlocks_89 rfl (lv_at hl 0 rfl) ?_
          exact M_i hx hb hr hlocks (l1, l2, l40, l41, l42, l43, l4, l5, l6, l7, l8, l9, l10, l11, l14, l15, l17, l18) hP hD hK hS ⟨⟨_, rfl, Or.inl ⟨(ez_1.symm.trans c_2), hcn _ (by by_cases h7 : en = 0; (exact Or.inl ⟨h7, by rw [h7]; exact EvR.t0 (fun h6 => le_nlt c_4 (by rw [ez_3]; exact h6))⟩); (exact Or.inr ⟨h7, rfl⟩))⟩⟩, ⟨by omega, by omega, h1l⟩⟩ (by first | exact Nat.le_of_ble_eq_true rfl | (simp only [rm_X10_doesBlocksE]; omega)) (by first | exact Nat.le_of_ble_eq_true rfl | (simp only [rm_X10_doesBlocksE]; omega)) dX10_doesBlocks_90
        · have nc_4 := nle_i c_4
          refine lv_iload_n hx hb dX10_doesBlocks_54 rfl (lv_at hl 0 rfl) ?_
          refine lv_if_ne (tgt := 89) hx hb dX10_doesBlocks_55 (by decide) (fun c_5 => ?_) (fun c_5 => ?_)
          · have nc_5 := ne_i c_5
            have lc_5 : (0 : Int32).toInt = 0 := by decide
            refine lv_iload_n hx hb dX10_doesBlocks_89 rfl (lv_at hl 0 rfl) ?_
            exact M_i hx hb hr hlocks (l1, l2, l40, l41, l42, l43, l4, l5, l6, l7, l8, l9, l10, l11, l14, l15, l17, l18) hP hD hK hS ⟨⟨_, rfl, Or.inl ⟨(ez_1.symm.trans c_2), hcn _ (Or.inr ⟨c_5, rfl⟩)⟩⟩, ⟨by omega, by omega, h1l⟩⟩ (by first | exact Nat.le_of_ble_eq_true rfl | (simp only [rm_X10_doesBlocksE]; omega)) (by first | exact Nat.le_of_ble_eq_true rfl | (simp only [rm_X10_doesBlocksE]; omega)) dX10_doesBlocks_90
          · have nc_5 := eq_i c_5
            have lc_5 : (0 : Int32).toInt = 0 := by decide
            refine lv_aload_n hx hb dX10_doesBlocks_58 rfl (lv_at hl 2 rfl) ?_
            refine M_V ⟨hx, hb, hml, hown, hts⟩ (m_X10_countsE l dC dI sa g h0 b (va_up (va_up (va_up (va_up (va_up (va_up i 1 l1) 2 l2) 40 l40) 41 l41) 42 l42) 43 l43) (va_up (va_up (va_up (va_up (va_up (va_up (va_up (va_up (va_up (va_up (va_up (va_up a 4 l4) 5 l5) 6 l6) 7 l7) 8 l8) 9 l9) 10 l10) 11 l11) 14 l14) 15 l15) 17 l17) 18 l18)  _ ) (cwV 0 hts gX10_doesBlocks_X10_counts rfl rfl rfl (by decide +kernel) ⟨(by first | exact Nat.le_of_ble_eq_true rfl | (simp only [rm_X10_countsE, rm_X10_doesBlocksE]; omega)), (by first | exact Nat.le_of_ble_eq_true rfl | (simp only [rm_X10_countsE, rm_X10_doesBlocksE]; omega))⟩) hP hD hK hS hA hev rfl rfl rfl rfl hl.1 rfl (Nat.le_of_ble_eq_true rfl) dX10_doesBlocks_59 ⟨(by first | exact Nat.le_of_ble_eq_true rfl | (simp only [rm_X10_doesBlocksE]; omega)), (by first | exact Nat.le_of_ble_eq_true rfl | (simp only [rm_X10_doesBlocksE]; omega))⟩ (fun r u H locs hw hP hD hS => ?_)
            obtain ⟨x40_6, rfl⟩ : ∃ z, z = u := ⟨_, rfl⟩
            have hw : ((r = some (.int 0) ∧ (l40 = (i 39) ∧ x40_6 = l40)) ∨ (r = some (.int 1) ∧ (¬ l40 = (i 39) ∧ x40_6 = l40 + 1))) ∧ (True) := hw
            obtain ⟨⟨rfl, hz2_8⟩ | ⟨rfl, hz2_8⟩, hw_7⟩ := hw
            · have hP : va_P (dC, dI) vwCl (mw g h0 b (va_up (va_up (va_up (va_up (va_up (va_up i 1 l1) 2 l2) 40 x40_6) 41 l41) 42 l42) 43 l43) (va_up (va_up (va_up (va_up (va_up (va_up (va_up (va_up (va_up (va_up (va_up (va_up a 4 l4) 5 l5) 6 l6) 7 l7) 8 l8) 9 l9) 10 l10) 11 l11) 14 l14) 15 l15) 17 l17) 18 l18)) _ := hP
              have hD : va_D _ (mw g h0 b (va_up (va_up (va_up (va_up (va_up (va_up i 1 l1) 2 l2) 40 x40_6) 41 l41) 42 l42) 43 l43) (va_up (va_up (va_up (va_up (va_up (va_up (va_up (va_up (va_up (va_up (va_up (va_up a 4 l4) 5 l5) 6 l6) 7 l7) 8 l8) 9 l9) 10 l10) 11 l11) 14 l14) 15 l15) 17 l17) 18 l18)) := hD
              refine W.eq (g2 := F0 m 62 ls [.int 0]) rfl ?_
              have hct0 := hz2_8.2
              have hct9 := congrArg Int32.toInt hct0
              refine lv_if_eq (tgt := 79) hx hb dX10_doesBlocks_62 (by decide) (fun _ => ?_) (fun c_9 => absurd c_9 (by decide))
              refine lv_sipush (v := 1000) hx hb dX10_doesBlocks_79 (by decide) ?_
              refine lv_istore_n (lv' := [(3, .int 1000), (4, .int zz), (0, .ref h0), (1, .int kk), (2, .int ck)]) hx hb dX10_doesBlocks_82 rfl hl (by decide) rfl (fun ls hl => ?_)
              refine lv_iinc (v := (zz + 1)) (lv' := [(4, .int (zz + 1)), (3, .int 1000), (0, .ref h0), (1, .int kk), (2, .int ck)]) hx hb dX10_doesBlocks_83 hl (k := 1) rfl rfl (by decide) rfl (fun ls hl => ?_)
              refine lv_goto (tgt := 43) hx hb dX10_doesBlocks_86 (by decide) ?_
              exact ih (1000 : Int32) (zz + 1) l1 l2 x40_6 l41 l42 l43 l4 l5 l6 l7 l8 l9 l10 l11 l14 l15 l17 l18 _ _ _ (⟨fun h9 => absurd h9 (by decide), by have := hm.1 c_5; omega⟩) (by omega) (by omega) (h1l) (fun u h8 => h8.elim (fun h7 => absurd h7.1 (by decide)) (fun h7 => by rw [h7.2, hct0]; exact hcn _ (Or.inl ⟨c_5, EvR.tl (by have h6 := nle_lt c_4; rw [ez_3] at h6; exact h6) hz2_8.1⟩))) hP hD hS (lv_sub hl [1, 0, 2, 3, 4] rfl)
            · have hP : va_P (dC, dI) vwCl (mw g h0 b (va_up (va_up (va_up (va_up (va_up (va_up i 1 l1) 2 l2) 40 x40_6) 41 l41) 42 l42) 43 l43) (va_up (va_up (va_up (va_up (va_up (va_up (va_up (va_up (va_up (va_up (va_up (va_up a 4 l4) 5 l5) 6 l6) 7 l7) 8 l8) 9 l9) 10 l10) 11 l11) 14 l14) 15 l15) 17 l17) 18 l18)) _ := hP
              have hD : va_D _ (mw g h0 b (va_up (va_up (va_up (va_up (va_up (va_up i 1 l1) 2 l2) 40 x40_6) 41 l41) 42 l42) 43 l43) (va_up (va_up (va_up (va_up (va_up (va_up (va_up (va_up (va_up (va_up (va_up (va_up a 4 l4) 5 l5) 6 l6) 7 l7) 8 l8) 9 l9) 10 l10) 11 l11) 14 l14) 15 l15) 17 l17) 18 l18)) := hD
              refine W.eq (g2 := F0 m 62 ls [.int 1]) rfl ?_
              have hct1 := cnt_1 (by omega) hz2_8.1 hz2_8.2
              refine lv_if_eq (tgt := 79) hx hb dX10_doesBlocks_62 (by decide) (fun c_10 => absurd c_10 (by decide)) (fun _ => ?_)
              refine lv_aload_n hx hb dX10_doesBlocks_65 rfl (lv_at hl 2 rfl) ?_
              refine lv_aload_n hx hb dX10_doesBlocks_66 rfl (lv_at hl 2 rfl) ?_
              refine va_get (D := (dC, dI)) (ci := 10) (v := .ref (b 31)) (C := RX10) (T := TX10) (N := 51) hx hb hts inw_X10_doesBlocks_10 hown hK hP 0 rfl rfl 31 (by decide) (hts (.fieldLink RX10 75 "VatHouseModel" "inner" "[I") (List.mem_of_getElem? (i := 3) (by exact rfl))) (fun _ h9 => h9) rfl dX10_doesBlocks_67 ?_
              refine lv_iload_n hx hb dX10_doesBlocks_70 rfl (lv_at hl 3 rfl) ?_
              refine va_iald hx hb hK hP 21 20 rfl rfl (by assumption) dX10_doesBlocks_71 ?_
              refine lv_topi (fun z_11 ez_11 => ?_)
              have ez_11 : z_11 = (a 31) kk.toNatClampNeg := ez_11
              refine lv_iload_n hx hb dX10_doesBlocks_72 rfl (lv_at hl 4 rfl) ?_
              refine M_V ⟨hx, hb, hml, hown, hts⟩ (IHR j1 (dl + 1) (by omega) hj1 (va_up (va_up (va_up (va_up (va_up (va_up i 1 l1) 2 l2) 40 x40_6) 41 l41) 42 l42) 43 l43) (va_up (va_up (va_up (va_up (va_up (va_up (va_up (va_up (va_up (va_up (va_up (va_up a 4 l4) 5 l5) 6 l6) 7 l7) 8 l8) 9 l9) 10 l10) 11 l11) 14 l14) 15 l15) 17 l17) 18 l18) z_11 ck _ hND (by rw [ez_11, hkq, ← hdq]; exact (hND q hVq).2.2.2.1) hc30 hwt (show x40_6.toInt ≤ (i 39).toInt by omega) h1l hk0) (cwV 2 hts gX10_doesBlocks_X10_row rfl rfl rfl (by decide +kernel) ⟨(by first | exact Nat.le_of_ble_eq_true rfl | (simp only [rm_X10_rowE, rm_X10_doesBlocksE]; omega)), (by first | exact Nat.le_of_ble_eq_true rfl | (simp only [rm_X10_rowE, rm_X10_doesBlocksE]; omega))⟩) hP hD hK hS hA hev rfl rfl rfl rfl hl.1 rfl (Nat.le_of_ble_eq_true rfl) dX10_doesBlocks_73 ⟨(by first | exact Nat.le_of_ble_eq_true rfl | (simp only [rm_X10_doesBlocksE]; omega)), (by first | exact Nat.le_of_ble_eq_true rfl | (simp only [rm_X10_doesBlocksE]; omega))⟩ (fun r u H locs hw hP hD hS => ?_)
              obtain ⟨x1_12, x2_13, x40_14, x41_15, x42_16, x43_17, y4_18, y5_19, y6_20, y7_21, y8_22, y9_23, y10_24, y11_25, y14_26, y15_27, y17_28, y18_29⟩ := u
              have hw : (∃ z : Int32, r = some (.int z) ∧ (EvR 0 z_11 0 ck.toNatClampNeg ((va_up (va_up (va_up (va_up (va_up (va_up i 1 l1) 2 l2) 40 x40_6) 41 l41) 42 l42) 43 l43), (va_up (va_up (va_up (va_up (va_up (va_up (va_up (va_up (va_up (va_up (va_up (va_up a 4 l4) 5 l5) 6 l6) 7 l7) 8 l8) 9 l9) 10 l10) 11 l11) 14 l14) 15 l15) 17 l17) 18 l18)) (z, (rbI (va_up (va_up (va_up (va_up (va_up (va_up i 1 l1) 2 l2) 40 x40_6) 41 l41) 42 l42) 43 l43) x1_12 x2_13 x40_14 x41_15 x42_16 x43_17, rbA (va_up (va_up (va_up (va_up (va_up (va_up (va_up (va_up (va_up (va_up (va_up (va_up a 4 l4) 5 l5) 6 l6) 7 l7) 8 l8) 9 l9) 10 l10) 11 l11) 14 l14) 15 l15) 17 l17) 18 l18) y4_18 y5_19 y6_20 y7_21 y8_22 y9_23 y10_24 y11_25 y14_26 y15_27 y17_28 y18_29)))) ∧ (x40_6.toInt ≤ x40_14.toInt ∧ x40_14.toInt ≤ ((va_up (va_up (va_up (va_up (va_up (va_up i 1 l1) 2 l2) 40 x40_6) 41 l41) 42 l42) 43 l43) 39).toInt ∧ H01 y10_24) := hw
              obtain ⟨⟨z_31, rfl, hz_z_31⟩, hw_30⟩ := hw
              have hP : va_P (dC, dI) vwCl (mw g h0 b (va_up (va_up (va_up (va_up (va_up (va_up i 1 x1_12) 2 x2_13) 40 x40_14) 41 x41_15) 42 x42_16) 43 x43_17) (va_up (va_up (va_up (va_up (va_up (va_up (va_up (va_up (va_up (va_up (va_up (va_up a 4 y4_18) 5 y5_19) 6 y6_20) 7 y7_21) 8 y8_22) 9 y9_23) 10 y10_24) 11 y11_25) 14 y14_26) 15 y15_27) 17 y17_28) 18 y18_29)) _ := hP
              have hD : va_D _ (mw g h0 b (va_up (va_up (va_up (va_up (va_up (va_up i 1 x1_12) 2 x2_13) 40 x40_14) 41 x41_15) 42 x42_16) 43 x43_17) (va_up (va_up (va_up (va_up (va_up (va_up (va_up (va_up (va_up (va_up (va_up (va_up a 4 y4_18) 5 y5_19) 6 y6_20) 7 y7_21) 8 y8_22) 9 y9_23) 10 y10_24) 11 y11_25) 14 y14_26) 15 y15_27) 17 y17_28) 18 y18_29)) := hD
              refine W.eq (g2 := F0 m 76 ls [.int z_31]) rfl ?_
              have hE_32 : EvR 0 (a 31 kk.toNatClampNeg) 0 ck.toNatClampNeg (rbI i l1 l2 x40_6 l41 l42 l43, rbA a l4 l5 l6 l7 l8 l9 l10 l11 l14 l15 l17 l18) (z_31, (rbI i x1_12 x2_13 x40_14 x41_15 x42_16 x43_17, rbA a y4_18 y5_19 y6_20 y7_21 y8_22 y9_23 y10_24 y11_25 y14_26 y15_27 y17_28 y18_29)) := EvR.ou (show ((z_31, (rbI (va_up (va_up (va_up (va_up (va_up (va_up i 1 l1) 2 l2) 40 x40_6) 41 l41) 42 l42) 43 l43) x1_12 x2_13 x40_14 x41_15 x42_16 x43_17, rbA (va_up (va_up (va_up (va_up (va_up (va_up (va_up (va_up (va_up (va_up (va_up (va_up a 4 l4) 5 l5) 6 l6) 7 l7) 8 l8) 9 l9) 10 l10) 11 l11) 14 l14) 15 l15) 17 l17) 18 l18) y4_18 y5_19 y6_20 y7_21 y8_22 y9_23 y10_24 y11_25 y14_26 y15_27 y17_28 y18_29)) : Int32 × AS) = (z_31, (rbI i x1_12 x2_13 x40_14 x41_15 x42_16 x43_17, rbA a y4_18 y5_19 y6_20 y7_21 y8_22 y9_23 y10_24 y11_25 y14_26 y15_27 y17_28 y18_29)) from by rw [rbI_eq (f := (va_up (va_up (va_up (va_up (va_up (va_up i 1 l1) 2 l2) 40 x40_6) 41 l41) 42 l42) 43 l43)) (i := i) (Eqx.up (by decide) (Eqx.up (by decide) (Eqx.up (by decide) (Eqx.up (by decide) (Eqx.up (by decide) (Eqx.up (by decide) (Eqx.rf))))))), rbA_eq (f := (va_up (va_up (va_up (va_up (va_up (va_up (va_up (va_up (va_up (va_up (va_up (va_up a 4 l4) 5 l5) 6 l6) 7 l7) 8 l8) 9 l9) 10 l10) 11 l11) 14 l14) 15 l15) 17 l17) 18 l18)) (a := a) (Eqx.up (by decide) (Eqx.up (by decide) (Eqx.up (by decide) (Eqx.up (by decide) (Eqx.up (by decide) (Eqx.up (by decide) (Eqx.up (by decide) (Eqx.up (by decide) (Eqx.up (by decide) (Eqx.up (by decide) (Eqx.up (by decide) (Eqx.up (by decide) (Eqx.rf)))))))))))))]) (by have h7 := hz_z_31; rw [ez_11] at h7; exact h7)
              obtain ⟨hg_33a, hg_33b, hg_33c⟩ := hw_30
              have hg_33a : x40_6.toInt ≤ x40_14.toInt := hg_33a
              have hg_33b : x40_14.toInt ≤ (i 39).toInt := hg_33b
              refine lv_goto (tgt := 82) hx hb dX10_doesBlocks_76 (by decide) ?_
              refine lv_istore_n (lv' := [(3, .int z_31), (4, .int zz), (0, .ref h0), (1, .int kk), (2, .int ck)]) hx hb dX10_doesBlocks_82 rfl hl (by decide) rfl (fun ls hl => ?_)
              refine lv_iinc (v := (zz + 1)) (lv' := [(4, .int (zz + 1)), (3, .int z_31), (0, .ref h0), (1, .int kk), (2, .int ck)]) hx hb dX10_doesBlocks_83 hl (k := 1) rfl rfl (by decide) rfl (fun ls hl => ?_)
              refine lv_goto (tgt := 43) hx hb dX10_doesBlocks_86 (by decide) ?_
              exact ih z_31 (zz + 1) x1_12 x2_13 x40_14 x41_15 x42_16 x43_17 y4_18 y5_19 y6_20 y7_21 y8_22 y9_23 y10_24 y11_25 y14_26 y15_27 y17_28 y18_29 _ _ _ (⟨fun _ => by have := hm.1 c_5; omega, by have := hm.1 c_5; omega⟩) (by omega) (by omega) (hg_33c) (fun u h8 => h8.elim (fun h7 => hcn u (Or.inl ⟨c_5, EvR.tg (by have h6 := nle_lt c_4; rw [ez_3] at h6; exact h6) hz2_8.1 (EvR.st (show coA (rbI i l1 l2 l40 l41 l42 l43, rbA a l4 l5 l6 l7 l8 l9 l10 l11 l14 l15 l17 l18) = (rbI i l1 l2 x40_6 l41 l42 l43, rbA a l4 l5 l6 l7 l8 l9 l10 l11 l14 l15 l17 l18) from rb_of (s := (i, a)) (s' := coA (rbI i l1 l2 l40 l41 l42 l43, rbA a l4 l5 l6 l7 l8 l9 l10 l11 l14 l15 l17 l18)) (FK.rb.tr FK.co) rfl rfl hz2_8.2 rfl rfl rfl rfl rfl rfl rfl rfl rfl rfl rfl rfl rfl rfl rfl).symm hE_32) h7.1 h7.2⟩)) (fun h7 => by rw [h7.2]; exact hcn _ (Or.inl ⟨c_5, EvR.te (by have h6 := nle_lt c_4; rw [ez_3] at h6; exact h6) hz2_8.1 (EvR.st (show coA (rbI i l1 l2 l40 l41 l42 l43, rbA a l4 l5 l6 l7 l8 l9 l10 l11 l14 l15 l17 l18) = (rbI i l1 l2 x40_6 l41 l42 l43, rbA a l4 l5 l6 l7 l8 l9 l10 l11 l14 l15 l17 l18) from rb_of (s := (i, a)) (s' := coA (rbI i l1 l2 l40 l41 l42 l43, rbA a l4 l5 l6 l7 l8 l9 l10 l11 l14 l15 l17 l18)) (FK.rb.tr FK.co) rfl rfl hz2_8.2 rfl rfl rfl rfl rfl rfl rfl rfl rfl rfl rfl rfl rfl rfl rfl).symm hE_32) h7.1⟩))) hP hD hS (lv_sub hl [1, 0, 2, 3, 4] rfl)
    exact lp (((i 39).toInt - (i 40).toInt).toNat + 2) (0 : Int32) (0 : Int32) (i 1) (i 2) (i 40) (i 41) (i 42) (i 43) (a 4) (a 5) (a 6) (a 7) (a 8) (a 9) (a 10) (a 11) (a 14) (a 15) (a 17) (a 18) _ _ _ (⟨fun _ => by omega, by omega⟩) (by omega) (by omega) (h01) (fun u h8 => h8.elim (fun h7 => EvR.st (rb_id (s := (i, a))) h7.2) (fun h7 => absurd rfl h7.1)) hP hD hS (lv_sub hl [1, 0, 2, 3, 4] rfl)
  by_cases c_34 : z_1 = 8
  · refine lv_tableIn (tgt := 91) hx hb dX10_doesBlocks_8 (by rw [c_34]; decide) (by rw [c_34]; decide) (by rw [c_34]; rfl) (by decide) ?_
    have lp : ∀ (n : Nat) (en : Int32) (l1 : Int32) (l2 : Int32) (l40 : Int32) (l41 : Int32) (l42 : Int32) (l43 : Int32) (l4 : Nat → Int32) (l5 : Nat → Int32) (l6 : Nat → Int32) (l7 : Nat → Int32) (l8 : Nat → Int32) (l9 : Nat → Int32) (l10 : Nat → Int32) (l11 : Nat → Int32) (l14 : Nat → Int32) (l15 : Nat → Int32) (l17 : Nat → Int32) (l18 : Nat → Int32) (H : Heap) (locs : List Loc) (ls : Array Slot), ((en = 0 → ((i 39).toInt - l40.toInt).toNat + 1 < n) ∧ 0 < n) → (l40.toInt ≤ (i 39).toInt) → ((i 40).toInt ≤ l40.toInt) → (H01 l10) → (∀ u : Int32 × AS, ((en = 0 ∧ EvR 3 0 kk.toNatClampNeg ck.toNatClampNeg (rbI i l1 l2 l40 l41 l42 l43, rbA a l4 l5 l6 l7 l8 l9 l10 l11 l14 l15 l17 l18) u) ∨ (¬ en = 0 ∧ u = (en, (rbI i l1 l2 l40 l41 l42 l43, rbA a l4 l5 l6 l7 l8 l9 l10 l11 l14 l15 l17 l18)))) → EvR 3 0 kk.toNatClampNeg ck.toNatClampNeg (i, a) u) → va_P (dC, dI) vwCl (mw g h0 b (va_up (va_up (va_up (va_up (va_up (va_up i 1 l1) 2 l2) 40 l40) 41 l41) 42 l42) 43 l43) (va_up (va_up (va_up (va_up (va_up (va_up (va_up (va_up (va_up (va_up (va_up (va_up a 4 l4) 5 l5) 6 l6) 7 l7) 8 l8) 9 l9) 10 l10) 11 l11) 14 l14) 15 l15) 17 l17) 18 l18)) H → va_D (va_A (mw g h0 b i a) s.heap.size) (mw g h0 b (va_up (va_up (va_up (va_up (va_up (va_up i 1 l1) 2 l2) 40 l40) 41 l41) 42 l42) 43 l43) (va_up (va_up (va_up (va_up (va_up (va_up (va_up (va_up (va_up (va_up (va_up (va_up a 4 l4) 5 l5) 6 l6) 7 l7) 8 l8) 9 l9) 10 l10) 11 l11) 14 l14) 15 l15) 17 l17) 18 l18)) → va_S (va_A (mw g h0 b i a) s.heap.size) s.heap H locs → lv_has ls 5 [(3, .int en), (0, .ref h0), (1, .int kk), (2, .int ck)] → W p l e (rm_X10_doesBlocksE V dp j dl) s m [.ref h0, .int kk, .int ck].toArray below meth c H locs 0 0 (MQ below (Qg (fun (r : Option Value) (u : Int32 × Int32 × Int32 × Int32 × Int32 × Int32 × (Nat → Int32) × (Nat → Int32) × (Nat → Int32) × (Nat → Int32) × (Nat → Int32) × (Nat → Int32) × (Nat → Int32) × (Nat → Int32) × (Nat → Int32) × (Nat → Int32) × (Nat → Int32) × (Nat → Int32)) => match u with | (x1, x2, x40, x41, x42, x43, y4, y5, y6, y7, y8, y9, y10, y11, y14, y15, y17, y18) => (∃ z : Int32, r = some (.int z) ∧ (BR kk.toNatClampNeg ck.toNatClampNeg (i, a) (z, (rbI i x1 x2 x40 x41 x42 x43, rbA a y4 y5 y6 y7 y8 y9 y10 y11 y14 y15 y17 y18)))) ∧ ((i 40).toInt ≤ x40.toInt ∧ x40.toInt ≤ (i 39).toInt ∧ H01 y10)) (fun u t => QW dC dI (va_A (mw g h0 b i a) s.heap.size) ((fun (u : Int32 × Int32 × Int32 × Int32 × Int32 × Int32 × (Nat → Int32) × (Nat → Int32) × (Nat → Int32) × (Nat → Int32) × (Nat → Int32) × (Nat → Int32) × (Nat → Int32) × (Nat → Int32) × (Nat → Int32) × (Nat → Int32) × (Nat → Int32) × (Nat → Int32)) => match u with | (x1, x2, x40, x41, x42, x43, y4, y5, y6, y7, y8, y9, y10, y11, y14, y15, y17, y18) => mw g h0 b (va_up (va_up (va_up (va_up (va_up (va_up i 1 x1) 2 x2) 40 x40) 41 x41) 42 x42) 43 x43) (va_up (va_up (va_up (va_up (va_up (va_up (va_up (va_up (va_up (va_up (va_up (va_up a 4 y4) 5 y5) 6 y6) 7 y7) 8 y8) 9 y9) 10 y10) 11 y11) 14 y14) 15 y15) 17 y17) 18 y18)) u) [] t) (va_A (mw g h0 b i a) s.heap.size)) [.ref h0, .int kk, .int ck].toArray s 0 0 (va_A (mw g h0 b i a) s.heap.size)) (F0 m 91 ls []) := by
      intro n
      induction n with
      | zero => intro en l1 l2 l40 l41 l42 l43 l4 l5 l6 l7 l8 l9 l10 l11 l14 l15 l17 l18 H locs ls hm hLl hge h1l hcn hP hD hS hl; exact absurd hm.2 (by omega)
      | succ n ih =>
        intro en l1 l2 l40 l41 l42 l43 l4 l5 l6 l7 l8 l9 l10 l11 l14 l15 l17 l18 H locs ls hm hLl hge h1l hcn hP hD hS hl
        refine lv_iload_n hx hb dX10_doesBlocks_91 rfl (lv_at hl 0 rfl) ?_
        refine lv_if_ne (tgt := 137) hx hb dX10_doesBlocks_92 (by decide) (fun c_35 => ?_) (fun c_35 => ?_)
        · have nc_35 := ne_i c_35
          have lc_35 : (0 : Int32).toInt = 0 := by decide
          refine lv_iload_n hx hb dX10_doesBlocks_137 rfl (lv_at hl 0 rfl) ?_
          exact M_i hx hb hr hlocks (l1, l2, l40, l41, l42, l43, l4, l5, l6, l7, l8, l9, l10, l11, l14, l15, l17, l18) hP hD hK hS ⟨⟨_, rfl, Or.inr (Or.inl ⟨(ez_1.symm.trans c_34), hcn _ (Or.inr ⟨c_35, rfl⟩)⟩)⟩, ⟨by omega, by omega, h1l⟩⟩ (by first | exact Nat.le_of_ble_eq_true rfl | (simp only [rm_X10_doesBlocksE]; omega)) (by first | exact Nat.le_of_ble_eq_true rfl | (simp only [rm_X10_doesBlocksE]; omega)) dX10_doesBlocks_138
        · have nc_35 := eq_i c_35
          have lc_35 : (0 : Int32).toInt = 0 := by decide
          refine lv_aload_n hx hb dX10_doesBlocks_95 rfl (lv_at hl 1 rfl) ?_
          refine M_V ⟨hx, hb, hml, hown, hts⟩ (m_X10_countsE l dC dI sa g h0 b (va_up (va_up (va_up (va_up (va_up (va_up i 1 l1) 2 l2) 40 l40) 41 l41) 42 l42) 43 l43) (va_up (va_up (va_up (va_up (va_up (va_up (va_up (va_up (va_up (va_up (va_up (va_up a 4 l4) 5 l5) 6 l6) 7 l7) 8 l8) 9 l9) 10 l10) 11 l11) 14 l14) 15 l15) 17 l17) 18 l18)  _ ) (cwV 0 hts gX10_doesBlocks_X10_counts rfl rfl rfl (by decide +kernel) ⟨(by first | exact Nat.le_of_ble_eq_true rfl | (simp only [rm_X10_countsE, rm_X10_doesBlocksE]; omega)), (by first | exact Nat.le_of_ble_eq_true rfl | (simp only [rm_X10_countsE, rm_X10_doesBlocksE]; omega))⟩) hP hD hK hS hA hev rfl rfl rfl rfl hl.1 rfl (Nat.le_of_ble_eq_true rfl) dX10_doesBlocks_96 ⟨(by first | exact Nat.le_of_ble_eq_true rfl | (simp only [rm_X10_doesBlocksE]; omega)), (by first | exact Nat.le_of_ble_eq_true rfl | (simp only [rm_X10_doesBlocksE]; omega))⟩ (fun r u H locs hw hP hD hS => ?_)
          obtain ⟨x40_36, rfl⟩ : ∃ z, z = u := ⟨_, rfl⟩
          have hw : ((r = some (.int 0) ∧ (l40 = (i 39) ∧ x40_36 = l40)) ∨ (r = some (.int 1) ∧ (¬ l40 = (i 39) ∧ x40_36 = l40 + 1))) ∧ (True) := hw
          obtain ⟨⟨rfl, hz2_38⟩ | ⟨rfl, hz2_38⟩, hw_37⟩ := hw
          · have hP : va_P (dC, dI) vwCl (mw g h0 b (va_up (va_up (va_up (va_up (va_up (va_up i 1 l1) 2 l2) 40 x40_36) 41 l41) 42 l42) 43 l43) (va_up (va_up (va_up (va_up (va_up (va_up (va_up (va_up (va_up (va_up (va_up (va_up a 4 l4) 5 l5) 6 l6) 7 l7) 8 l8) 9 l9) 10 l10) 11 l11) 14 l14) 15 l15) 17 l17) 18 l18)) _ := hP
            have hD : va_D _ (mw g h0 b (va_up (va_up (va_up (va_up (va_up (va_up i 1 l1) 2 l2) 40 x40_36) 41 l41) 42 l42) 43 l43) (va_up (va_up (va_up (va_up (va_up (va_up (va_up (va_up (va_up (va_up (va_up (va_up a 4 l4) 5 l5) 6 l6) 7 l7) 8 l8) 9 l9) 10 l10) 11 l11) 14 l14) 15 l15) 17 l17) 18 l18)) := hD
            refine W.eq (g2 := F0 m 99 ls [.int 0]) rfl ?_
            have hct0 := hz2_38.2
            have hct9 := congrArg Int32.toInt hct0
            refine lv_if_ne (tgt := 106) hx hb dX10_doesBlocks_99 (by decide) (fun c_39 => absurd c_39 (by decide)) (fun _ => ?_)
            refine lv_sipush (v := 1000) hx hb dX10_doesBlocks_102 (by decide) ?_
            exact M_i hx hb hr hlocks (l1, l2, x40_36, l41, l42, l43, l4, l5, l6, l7, l8, l9, l10, l11, l14, l15, l17, l18) hP hD hK hS ⟨⟨_, rfl, Or.inr (Or.inl ⟨(ez_1.symm.trans c_34), hcn _ (Or.inl ⟨c_35, (by rw [hct0]; exact EvR.ul hz2_38.1)⟩)⟩)⟩, ⟨by omega, by omega, h1l⟩⟩ (by first | exact Nat.le_of_ble_eq_true rfl | (simp only [rm_X10_doesBlocksE]; omega)) (by first | exact Nat.le_of_ble_eq_true rfl | (simp only [rm_X10_doesBlocksE]; omega)) dX10_doesBlocks_105
          · have hP : va_P (dC, dI) vwCl (mw g h0 b (va_up (va_up (va_up (va_up (va_up (va_up i 1 l1) 2 l2) 40 x40_36) 41 l41) 42 l42) 43 l43) (va_up (va_up (va_up (va_up (va_up (va_up (va_up (va_up (va_up (va_up (va_up (va_up a 4 l4) 5 l5) 6 l6) 7 l7) 8 l8) 9 l9) 10 l10) 11 l11) 14 l14) 15 l15) 17 l17) 18 l18)) _ := hP
            have hD : va_D _ (mw g h0 b (va_up (va_up (va_up (va_up (va_up (va_up i 1 l1) 2 l2) 40 x40_36) 41 l41) 42 l42) 43 l43) (va_up (va_up (va_up (va_up (va_up (va_up (va_up (va_up (va_up (va_up (va_up (va_up a 4 l4) 5 l5) 6 l6) 7 l7) 8 l8) 9 l9) 10 l10) 11 l11) 14 l14) 15 l15) 17 l17) 18 l18)) := hD
            refine W.eq (g2 := F0 m 99 ls [.int 1]) rfl ?_
            have hct1 := cnt_1 (by omega) hz2_38.1 hz2_38.2
            refine lv_if_ne (tgt := 106) hx hb dX10_doesBlocks_99 (by decide) (fun _ => ?_) (fun c_40 => absurd c_40 (by decide))
            refine lv_aload_n hx hb dX10_doesBlocks_106 rfl (lv_at hl 1 rfl) ?_
            refine lv_iload_n hx hb dX10_doesBlocks_107 rfl (lv_at hl 3 rfl) ?_
            refine M_V ⟨hx, hb, hml, hown, hts⟩ (m_X10_shadeOfE l dC dI sa g h0 b (va_up (va_up (va_up (va_up (va_up (va_up i 1 l1) 2 l2) 40 x40_36) 41 l41) 42 l42) 43 l43) (va_up (va_up (va_up (va_up (va_up (va_up (va_up (va_up (va_up (va_up (va_up (va_up a 4 l4) 5 l5) 6 l6) 7 l7) 8 l8) 9 l9) 10 l10) 11 l11) 14 l14) 15 l15) 17 l17) 18 l18) ck _ hc30 hwt) (cwV 1 hts gX10_doesBlocks_X10_shadeOf rfl rfl rfl (by decide +kernel) ⟨(by first | exact Nat.le_of_ble_eq_true rfl | (simp only [rm_X10_shadeOfE, rm_X10_doesBlocksE]; omega)), (by first | exact Nat.le_of_ble_eq_true rfl | (simp only [rm_X10_shadeOfE, rm_X10_doesBlocksE]; omega))⟩) hP hD hK hS hA hev rfl rfl rfl rfl hl.1 rfl (Nat.le_of_ble_eq_true rfl) dX10_doesBlocks_108 ⟨(by first | exact Nat.le_of_ble_eq_true rfl | (simp only [rm_X10_doesBlocksE]; omega)), (by first | exact Nat.le_of_ble_eq_true rfl | (simp only [rm_X10_doesBlocksE]; omega))⟩ (fun r u H locs hw hP hD hS => ?_)
            have hw : (∃ z : Int32, r = some (.int z) ∧ (z = (l15 ck.toNatClampNeg) / ((a 13) ck.toNatClampNeg))) ∧ (True) := hw
            obtain ⟨⟨z_42, rfl, hz_z_42⟩, hw_41⟩ := hw
            have hP : va_P (dC, dI) vwCl (mw g h0 b (va_up (va_up (va_up (va_up (va_up (va_up i 1 l1) 2 l2) 40 x40_36) 41 l41) 42 l42) 43 l43) (va_up (va_up (va_up (va_up (va_up (va_up (va_up (va_up (va_up (va_up (va_up (va_up a 4 l4) 5 l5) 6 l6) 7 l7) 8 l8) 9 l9) 10 l10) 11 l11) 14 l14) 15 l15) 17 l17) 18 l18)) _ := hP
            have hD : va_D _ (mw g h0 b (va_up (va_up (va_up (va_up (va_up (va_up i 1 l1) 2 l2) 40 x40_36) 41 l41) 42 l42) 43 l43) (va_up (va_up (va_up (va_up (va_up (va_up (va_up (va_up (va_up (va_up (va_up (va_up a 4 l4) 5 l5) 6 l6) 7 l7) 8 l8) 9 l9) 10 l10) 11 l11) 14 l14) 15 l15) 17 l17) 18 l18)) := hD
            refine W.eq (g2 := F0 m 111 ls [.int z_42]) rfl ?_
            refine lv_aload_n hx hb dX10_doesBlocks_111 rfl (lv_at hl 1 rfl) ?_
            refine va_get (D := (dC, dI)) (ci := 10) (v := .ref (b 27)) (C := RX10) (T := TX10) (N := 51) hx hb hts inw_X10_doesBlocks_10 hown hK hP 0 rfl rfl 27 (by decide) (hts (.fieldLink RX10 63 "VatHouseModel" "one" "[I") (List.mem_of_getElem? (i := 2) (by exact rfl))) (fun _ h9 => h9) rfl dX10_doesBlocks_112 ?_
            refine lv_iload_n hx hb dX10_doesBlocks_115 rfl (lv_at hl 2 rfl) ?_
            refine va_iald hx hb hK hP 17 16 rfl rfl (by assumption) dX10_doesBlocks_116 ?_
            refine lv_topi (fun z_43 ez_43 => ?_)
            have ez_43 : z_43 = (a 27) kk.toNatClampNeg := ez_43
            refine lv_icmp_lt (tgt := 122) hx hb dX10_doesBlocks_117 (by decide) (fun c_44 => ?_) (fun c_44 => ?_)
            · have nc_44 := lt_i c_44
              refine lv_aload_n hx hb dX10_doesBlocks_122 rfl (lv_at hl 1 rfl) ?_
              refine lv_aload_n hx hb dX10_doesBlocks_123 rfl (lv_at hl 1 rfl) ?_
              refine va_get (D := (dC, dI)) (ci := 10) (v := .ref (b 31)) (C := RX10) (T := TX10) (N := 51) hx hb hts inw_X10_doesBlocks_10 hown hK hP 0 rfl rfl 31 (by decide) (hts (.fieldLink RX10 75 "VatHouseModel" "inner" "[I") (List.mem_of_getElem? (i := 3) (by exact rfl))) (fun _ h9 => h9) rfl dX10_doesBlocks_124 ?_
              refine lv_iload_n hx hb dX10_doesBlocks_127 rfl (lv_at hl 2 rfl) ?_
              refine va_iald hx hb hK hP 21 20 rfl rfl (by assumption) dX10_doesBlocks_128 ?_
              refine lv_topi (fun z_45 ez_45 => ?_)
              have ez_45 : z_45 = (a 31) kk.toNatClampNeg := ez_45
              refine lv_iload_n hx hb dX10_doesBlocks_129 rfl (lv_at hl 3 rfl) ?_
              refine M_V ⟨hx, hb, hml, hown, hts⟩ (IHR j1 (dl + 1) (by omega) hj1 (va_up (va_up (va_up (va_up (va_up (va_up i 1 l1) 2 l2) 40 x40_36) 41 l41) 42 l42) 43 l43) (va_up (va_up (va_up (va_up (va_up (va_up (va_up (va_up (va_up (va_up (va_up (va_up a 4 l4) 5 l5) 6 l6) 7 l7) 8 l8) 9 l9) 10 l10) 11 l11) 14 l14) 15 l15) 17 l17) 18 l18) z_45 ck _ hND (by rw [ez_45, hkq, ← hdq]; exact (hND q hVq).2.2.2.1) hc30 hwt (show x40_36.toInt ≤ (i 39).toInt by omega) h1l hk0) (cwV 2 hts gX10_doesBlocks_X10_row rfl rfl rfl (by decide +kernel) ⟨(by first | exact Nat.le_of_ble_eq_true rfl | (simp only [rm_X10_rowE, rm_X10_doesBlocksE]; omega)), (by first | exact Nat.le_of_ble_eq_true rfl | (simp only [rm_X10_rowE, rm_X10_doesBlocksE]; omega))⟩) hP hD hK hS hA hev rfl rfl rfl rfl hl.1 rfl (Nat.le_of_ble_eq_true rfl) dX10_doesBlocks_130 ⟨(by first | exact Nat.le_of_ble_eq_true rfl | (simp only [rm_X10_doesBlocksE]; omega)), (by first | exact Nat.le_of_ble_eq_true rfl | (simp only [rm_X10_doesBlocksE]; omega))⟩ (fun r u H locs hw hP hD hS => ?_)
              obtain ⟨x1_46, x2_47, x40_48, x41_49, x42_50, x43_51, y4_52, y5_53, y6_54, y7_55, y8_56, y9_57, y10_58, y11_59, y14_60, y15_61, y17_62, y18_63⟩ := u
              have hw : (∃ z : Int32, r = some (.int z) ∧ (EvR 0 z_45 0 ck.toNatClampNeg ((va_up (va_up (va_up (va_up (va_up (va_up i 1 l1) 2 l2) 40 x40_36) 41 l41) 42 l42) 43 l43), (va_up (va_up (va_up (va_up (va_up (va_up (va_up (va_up (va_up (va_up (va_up (va_up a 4 l4) 5 l5) 6 l6) 7 l7) 8 l8) 9 l9) 10 l10) 11 l11) 14 l14) 15 l15) 17 l17) 18 l18)) (z, (rbI (va_up (va_up (va_up (va_up (va_up (va_up i 1 l1) 2 l2) 40 x40_36) 41 l41) 42 l42) 43 l43) x1_46 x2_47 x40_48 x41_49 x42_50 x43_51, rbA (va_up (va_up (va_up (va_up (va_up (va_up (va_up (va_up (va_up (va_up (va_up (va_up a 4 l4) 5 l5) 6 l6) 7 l7) 8 l8) 9 l9) 10 l10) 11 l11) 14 l14) 15 l15) 17 l17) 18 l18) y4_52 y5_53 y6_54 y7_55 y8_56 y9_57 y10_58 y11_59 y14_60 y15_61 y17_62 y18_63)))) ∧ (x40_36.toInt ≤ x40_48.toInt ∧ x40_48.toInt ≤ ((va_up (va_up (va_up (va_up (va_up (va_up i 1 l1) 2 l2) 40 x40_36) 41 l41) 42 l42) 43 l43) 39).toInt ∧ H01 y10_58) := hw
              obtain ⟨⟨z_65, rfl, hz_z_65⟩, hw_64⟩ := hw
              have hP : va_P (dC, dI) vwCl (mw g h0 b (va_up (va_up (va_up (va_up (va_up (va_up i 1 x1_46) 2 x2_47) 40 x40_48) 41 x41_49) 42 x42_50) 43 x43_51) (va_up (va_up (va_up (va_up (va_up (va_up (va_up (va_up (va_up (va_up (va_up (va_up a 4 y4_52) 5 y5_53) 6 y6_54) 7 y7_55) 8 y8_56) 9 y9_57) 10 y10_58) 11 y11_59) 14 y14_60) 15 y15_61) 17 y17_62) 18 y18_63)) _ := hP
              have hD : va_D _ (mw g h0 b (va_up (va_up (va_up (va_up (va_up (va_up i 1 x1_46) 2 x2_47) 40 x40_48) 41 x41_49) 42 x42_50) 43 x43_51) (va_up (va_up (va_up (va_up (va_up (va_up (va_up (va_up (va_up (va_up (va_up (va_up a 4 y4_52) 5 y5_53) 6 y6_54) 7 y7_55) 8 y8_56) 9 y9_57) 10 y10_58) 11 y11_59) 14 y14_60) 15 y15_61) 17 y17_62) 18 y18_63)) := hD
              refine W.eq (g2 := F0 m 133 ls [.int z_65]) rfl ?_
              have hE_66 : EvR 0 (a 31 kk.toNatClampNeg) 0 ck.toNatClampNeg (rbI i l1 l2 x40_36 l41 l42 l43, rbA a l4 l5 l6 l7 l8 l9 l10 l11 l14 l15 l17 l18) (z_65, (rbI i x1_46 x2_47 x40_48 x41_49 x42_50 x43_51, rbA a y4_52 y5_53 y6_54 y7_55 y8_56 y9_57 y10_58 y11_59 y14_60 y15_61 y17_62 y18_63)) := EvR.ou (show ((z_65, (rbI (va_up (va_up (va_up (va_up (va_up (va_up i 1 l1) 2 l2) 40 x40_36) 41 l41) 42 l42) 43 l43) x1_46 x2_47 x40_48 x41_49 x42_50 x43_51, rbA (va_up (va_up (va_up (va_up (va_up (va_up (va_up (va_up (va_up (va_up (va_up (va_up a 4 l4) 5 l5) 6 l6) 7 l7) 8 l8) 9 l9) 10 l10) 11 l11) 14 l14) 15 l15) 17 l17) 18 l18) y4_52 y5_53 y6_54 y7_55 y8_56 y9_57 y10_58 y11_59 y14_60 y15_61 y17_62 y18_63)) : Int32 × AS) = (z_65, (rbI i x1_46 x2_47 x40_48 x41_49 x42_50 x43_51, rbA a y4_52 y5_53 y6_54 y7_55 y8_56 y9_57 y10_58 y11_59 y14_60 y15_61 y17_62 y18_63)) from by rw [rbI_eq (f := (va_up (va_up (va_up (va_up (va_up (va_up i 1 l1) 2 l2) 40 x40_36) 41 l41) 42 l42) 43 l43)) (i := i) (Eqx.up (by decide) (Eqx.up (by decide) (Eqx.up (by decide) (Eqx.up (by decide) (Eqx.up (by decide) (Eqx.up (by decide) (Eqx.rf))))))), rbA_eq (f := (va_up (va_up (va_up (va_up (va_up (va_up (va_up (va_up (va_up (va_up (va_up (va_up a 4 l4) 5 l5) 6 l6) 7 l7) 8 l8) 9 l9) 10 l10) 11 l11) 14 l14) 15 l15) 17 l17) 18 l18)) (a := a) (Eqx.up (by decide) (Eqx.up (by decide) (Eqx.up (by decide) (Eqx.up (by decide) (Eqx.up (by decide) (Eqx.up (by decide) (Eqx.up (by decide) (Eqx.up (by decide) (Eqx.up (by decide) (Eqx.up (by decide) (Eqx.up (by decide) (Eqx.up (by decide) (Eqx.rf)))))))))))))]) (by have h7 := hz_z_65; rw [ez_45] at h7; exact h7)
              obtain ⟨hg_67a, hg_67b, hg_67c⟩ := hw_64
              have hg_67a : x40_36.toInt ≤ x40_48.toInt := hg_67a
              have hg_67b : x40_48.toInt ≤ (i 39).toInt := hg_67b
              refine lv_istore_n (lv' := [(3, .int z_65), (0, .ref h0), (1, .int kk), (2, .int ck)]) hx hb dX10_doesBlocks_133 rfl hl (by decide) rfl (fun ls hl => ?_)
              refine lv_goto (tgt := 91) hx hb dX10_doesBlocks_134 (by decide) ?_
              exact ih z_65 x1_46 x2_47 x40_48 x41_49 x42_50 x43_51 y4_52 y5_53 y6_54 y7_55 y8_56 y9_57 y10_58 y11_59 y14_60 y15_61 y17_62 y18_63 _ _ _ (⟨fun _ => by have := hm.1 c_35; omega, by have := hm.1 c_35; omega⟩) (by omega) (by omega) (hg_67c) (fun u h8 => h8.elim (fun h7 => hcn u (Or.inl ⟨c_35, EvR.ug hz2_38.1 (fun h5 => le_nlt h5 (by have h6 := c_44; rw [ez_43, hz_z_42] at h6; exact h6)) (EvR.st (show coA (rbI i l1 l2 l40 l41 l42 l43, rbA a l4 l5 l6 l7 l8 l9 l10 l11 l14 l15 l17 l18) = (rbI i l1 l2 x40_36 l41 l42 l43, rbA a l4 l5 l6 l7 l8 l9 l10 l11 l14 l15 l17 l18) from rb_of (s := (i, a)) (s' := coA (rbI i l1 l2 l40 l41 l42 l43, rbA a l4 l5 l6 l7 l8 l9 l10 l11 l14 l15 l17 l18)) (FK.rb.tr FK.co) rfl rfl hz2_38.2 rfl rfl rfl rfl rfl rfl rfl rfl rfl rfl rfl rfl rfl rfl rfl).symm hE_66) h7.1 h7.2⟩)) (fun h7 => by rw [h7.2]; exact hcn _ (Or.inl ⟨c_35, EvR.ue hz2_38.1 (fun h5 => le_nlt h5 (by have h6 := c_44; rw [ez_43, hz_z_42] at h6; exact h6)) (EvR.st (show coA (rbI i l1 l2 l40 l41 l42 l43, rbA a l4 l5 l6 l7 l8 l9 l10 l11 l14 l15 l17 l18) = (rbI i l1 l2 x40_36 l41 l42 l43, rbA a l4 l5 l6 l7 l8 l9 l10 l11 l14 l15 l17 l18) from rb_of (s := (i, a)) (s' := coA (rbI i l1 l2 l40 l41 l42 l43, rbA a l4 l5 l6 l7 l8 l9 l10 l11 l14 l15 l17 l18)) (FK.rb.tr FK.co) rfl rfl hz2_38.2 rfl rfl rfl rfl rfl rfl rfl rfl rfl rfl rfl rfl rfl rfl rfl).symm hE_66) h7.1⟩))) hP hD hS (lv_sub hl [0, 1, 2, 3] rfl)
            · have nc_44 := nlt_i c_44
              refine lv_iconst (v := 0) hx hb dX10_doesBlocks_120 (by decide) ?_
              exact M_i hx hb hr hlocks (l1, l2, x40_36, l41, l42, l43, l4, l5, l6, l7, l8, l9, l10, l11, l14, l15, l17, l18) hP hD hK hS ⟨⟨_, rfl, Or.inr (Or.inl ⟨(ez_1.symm.trans c_34), hcn _ (Or.inl ⟨c_35, EvR.ou (congrArg (fun s9 : AS => ((0 : Int32), s9)) (show coA (rbI i l1 l2 l40 l41 l42 l43, rbA a l4 l5 l6 l7 l8 l9 l10 l11 l14 l15 l17 l18) = (rbI i l1 l2 x40_36 l41 l42 l43, rbA a l4 l5 l6 l7 l8 l9 l10 l11 l14 l15 l17 l18) from rb_of (s := (i, a)) (s' := coA (rbI i l1 l2 l40 l41 l42 l43, rbA a l4 l5 l6 l7 l8 l9 l10 l11 l14 l15 l17 l18)) (FK.rb.tr FK.co) rfl rfl hz2_38.2 rfl rfl rfl rfl rfl rfl rfl rfl rfl rfl rfl rfl rfl rfl rfl)) (EvR.u0 hz2_38.1 (by have h6 := nlt_le c_44; rw [ez_43, hz_z_42] at h6; exact h6))⟩)⟩)⟩, ⟨by omega, by omega, h1l⟩⟩ (by first | exact Nat.le_of_ble_eq_true rfl | (simp only [rm_X10_doesBlocksE]; omega)) (by first | exact Nat.le_of_ble_eq_true rfl | (simp only [rm_X10_doesBlocksE]; omega)) dX10_doesBlocks_121
    exact lp (((i 39).toInt - (i 40).toInt).toNat + 2) (0 : Int32) (i 1) (i 2) (i 40) (i 41) (i 42) (i 43) (a 4) (a 5) (a 6) (a 7) (a 8) (a 9) (a 10) (a 11) (a 14) (a 15) (a 17) (a 18) _ _ _ (⟨fun _ => by omega, by omega⟩) (by omega) (by omega) (h01) (fun u h8 => h8.elim (fun h7 => EvR.st (rb_id (s := (i, a))) h7.2) (fun h7 => absurd rfl h7.1)) hP hD hS (lv_sub hl [0, 1, 2, 3] rfl)
  by_cases c_68 : z_1 = 9
  · refine lv_tableIn (tgt := 139) hx hb dX10_doesBlocks_8 (by rw [c_68]; decide) (by rw [c_68]; decide) (by rw [c_68]; rfl) (by decide) ?_
    refine lv_aload_n hx hb dX10_doesBlocks_139 rfl (lv_at hl 1 rfl) ?_
    refine lv_aload_n hx hb dX10_doesBlocks_140 rfl (lv_at hl 1 rfl) ?_
    refine lv_iload_n hx hb dX10_doesBlocks_141 rfl (lv_at hl 2 rfl) ?_
    refine lv_iload_n hx hb dX10_doesBlocks_142 rfl (lv_at hl 3 rfl) ?_
    refine M_V ⟨hx, hb, hml, hown, hts⟩ (m_X10_holdsE l dC dI sa g h0 b i a kk ck _ hk (ND.one hND hVq hkq rfl ez_1 (Or.inr (Or.inr (Or.inr c_68)))) hc30 hwt) (cwV 2 hts gX10_doesBlocks_X10_holds rfl rfl rfl (by decide +kernel) ⟨(by first | exact Nat.le_of_ble_eq_true rfl | (simp only [rm_X10_holdsE, rm_X10_doesBlocksE]; omega)), (by first | exact Nat.le_of_ble_eq_true rfl | (simp only [rm_X10_holdsE, rm_X10_doesBlocksE]; omega))⟩) hP hD hK hS hA hev rfl rfl rfl rfl hl.1 rfl (Nat.le_of_ble_eq_true rfl) dX10_doesBlocks_143 ⟨(by first | exact Nat.le_of_ble_eq_true rfl | (simp only [rm_X10_doesBlocksE]; omega)), (by first | exact Nat.le_of_ble_eq_true rfl | (simp only [rm_X10_doesBlocksE]; omega))⟩ (fun r u H locs hw hP hD hS => ?_)
    have hw : ((r = some (.int 0) ∧ (¬ hdA (i, a) kk.toNatClampNeg ck.toNatClampNeg)) ∨ (r = some (.int 1) ∧ (hdA (i, a) kk.toNatClampNeg ck.toNatClampNeg))) ∧ (True) := hw
    obtain ⟨⟨rfl, hz2_70⟩ | ⟨rfl, hz2_70⟩, hw_69⟩ := hw
    · have hP : va_P (dC, dI) vwCl (mw g h0 b i a) _ := hP
      have hD : va_D _ (mw g h0 b i a) := hD
      refine W.eq (g2 := F0 m 146 ls [.int 0, .ref h0]) rfl ?_
      refine lv_if_eq (tgt := 158) hx hb dX10_doesBlocks_146 (by decide) (fun _ => ?_) (fun c_71 => absurd c_71 (by decide))
      refine lv_aload_n hx hb dX10_doesBlocks_158 rfl (lv_at hl 1 rfl) ?_
      refine va_get (D := (dC, dI)) (ci := 10) (v := .ref (b 32)) (C := RX10) (T := TX10) (N := 51) hx hb hts inw_X10_doesBlocks_10 hown hK hP 0 rfl rfl 32 (by decide) (hts (.fieldLink RX10 78 "VatHouseModel" "other" "[I") (List.mem_of_getElem? (i := 4) (by exact rfl))) (fun _ h9 => h9) rfl dX10_doesBlocks_159 ?_
      refine lv_iload_n hx hb dX10_doesBlocks_162 rfl (lv_at hl 2 rfl) ?_
      refine va_iald hx hb hK hP 22 21 rfl rfl (by assumption) dX10_doesBlocks_163 ?_
      refine lv_topi (fun z_72 ez_72 => ?_)
      have ez_72 : z_72 = (a 32) kk.toNatClampNeg := ez_72
      refine lv_iload_n hx hb dX10_doesBlocks_164 rfl (lv_at hl 3 rfl) ?_
      refine M_V ⟨hx, hb, hml, hown, hts⟩ (IHR j1 (dl + 1) (by omega) hj1 i a z_72 ck _ hND (by rw [ez_72, hkq, ← hdq]; exact (hND q hVq).2.2.2.2.1) hc30 hwt (show (i 40).toInt ≤ (i 39).toInt by omega) h01 hk0) (cwV 2 hts gX10_doesBlocks_X10_row rfl rfl rfl (by decide +kernel) ⟨(by first | exact Nat.le_of_ble_eq_true rfl | (simp only [rm_X10_rowE, rm_X10_doesBlocksE]; omega)), (by first | exact Nat.le_of_ble_eq_true rfl | (simp only [rm_X10_rowE, rm_X10_doesBlocksE]; omega))⟩) hP hD hK hS hA hev rfl rfl rfl rfl hl.1 rfl (Nat.le_of_ble_eq_true rfl) dX10_doesBlocks_165 ⟨(by first | exact Nat.le_of_ble_eq_true rfl | (simp only [rm_X10_doesBlocksE]; omega)), (by first | exact Nat.le_of_ble_eq_true rfl | (simp only [rm_X10_doesBlocksE]; omega))⟩ (fun r u H locs hw hP hD hS => ?_)
      obtain ⟨x1_73, x2_74, x40_75, x41_76, x42_77, x43_78, y4_79, y5_80, y6_81, y7_82, y8_83, y9_84, y10_85, y11_86, y14_87, y15_88, y17_89, y18_90⟩ := u
      have hw : (∃ z : Int32, r = some (.int z) ∧ (EvR 0 z_72 0 ck.toNatClampNeg (i, a) (z, (rbI i x1_73 x2_74 x40_75 x41_76 x42_77 x43_78, rbA a y4_79 y5_80 y6_81 y7_82 y8_83 y9_84 y10_85 y11_86 y14_87 y15_88 y17_89 y18_90)))) ∧ ((i 40).toInt ≤ x40_75.toInt ∧ x40_75.toInt ≤ (i 39).toInt ∧ H01 y10_85) := hw
      obtain ⟨⟨z_92, rfl, hz_z_92⟩, hw_91⟩ := hw
      have hP : va_P (dC, dI) vwCl (mw g h0 b (va_up (va_up (va_up (va_up (va_up (va_up i 1 x1_73) 2 x2_74) 40 x40_75) 41 x41_76) 42 x42_77) 43 x43_78) (va_up (va_up (va_up (va_up (va_up (va_up (va_up (va_up (va_up (va_up (va_up (va_up a 4 y4_79) 5 y5_80) 6 y6_81) 7 y7_82) 8 y8_83) 9 y9_84) 10 y10_85) 11 y11_86) 14 y14_87) 15 y15_88) 17 y17_89) 18 y18_90)) _ := hP
      have hD : va_D _ (mw g h0 b (va_up (va_up (va_up (va_up (va_up (va_up i 1 x1_73) 2 x2_74) 40 x40_75) 41 x41_76) 42 x42_77) 43 x43_78) (va_up (va_up (va_up (va_up (va_up (va_up (va_up (va_up (va_up (va_up (va_up (va_up a 4 y4_79) 5 y5_80) 6 y6_81) 7 y7_82) 8 y8_83) 9 y9_84) 10 y10_85) 11 y11_86) 14 y14_87) 15 y15_88) 17 y17_89) 18 y18_90)) := hD
      refine W.eq (g2 := F0 m 168 ls [.int z_92]) rfl ?_
      have hE_93 : EvR 0 (a 32 kk.toNatClampNeg) 0 ck.toNatClampNeg (i, a) (z_92, (rbI i x1_73 x2_74 x40_75 x41_76 x42_77 x43_78, rbA a y4_79 y5_80 y6_81 y7_82 y8_83 y9_84 y10_85 y11_86 y14_87 y15_88 y17_89 y18_90)) := EvR.ou (show ((z_92, (rbI i x1_73 x2_74 x40_75 x41_76 x42_77 x43_78, rbA a y4_79 y5_80 y6_81 y7_82 y8_83 y9_84 y10_85 y11_86 y14_87 y15_88 y17_89 y18_90)) : Int32 × AS) = (z_92, (rbI i x1_73 x2_74 x40_75 x41_76 x42_77 x43_78, rbA a y4_79 y5_80 y6_81 y7_82 y8_83 y9_84 y10_85 y11_86 y14_87 y15_88 y17_89 y18_90)) from by rw [rbI_eq (f := i) (i := i) (Eqx.rf), rbA_eq (f := a) (a := a) (Eqx.rf)]) (by have h7 := hz_z_92; rw [ez_72] at h7; exact h7)
      obtain ⟨hg_94a, hg_94b, hg_94c⟩ := hw_91
      have hg_94a : (i 40).toInt ≤ x40_75.toInt := hg_94a
      have hg_94b : x40_75.toInt ≤ (i 39).toInt := hg_94b
      exact M_i hx hb hr hlocks (x1_73, x2_74, x40_75, x41_76, x42_77, x43_78, y4_79, y5_80, y6_81, y7_82, y8_83, y9_84, y10_85, y11_86, y14_87, y15_88, y17_89, y18_90) hP hD hK hS ⟨⟨_, rfl, Or.inr (Or.inr (Or.inl ⟨(ez_1.symm.trans c_68), (by rw [if_neg hz2_70]; exact hE_93)⟩))⟩, ⟨by omega, by omega, hg_94c⟩⟩ (by first | exact Nat.le_of_ble_eq_true rfl | (simp only [rm_X10_doesBlocksE]; omega)) (by first | exact Nat.le_of_ble_eq_true rfl | (simp only [rm_X10_doesBlocksE]; omega)) dX10_doesBlocks_168
    · have hP : va_P (dC, dI) vwCl (mw g h0 b i a) _ := hP
      have hD : va_D _ (mw g h0 b i a) := hD
      refine W.eq (g2 := F0 m 146 ls [.int 1, .ref h0]) rfl ?_
      refine lv_if_eq (tgt := 158) hx hb dX10_doesBlocks_146 (by decide) (fun c_95 => absurd c_95 (by decide)) (fun _ => ?_)
      refine lv_aload_n hx hb dX10_doesBlocks_149 rfl (lv_at hl 1 rfl) ?_
      refine va_get (D := (dC, dI)) (ci := 10) (v := .ref (b 31)) (C := RX10) (T := TX10) (N := 51) hx hb hts inw_X10_doesBlocks_10 hown hK hP 0 rfl rfl 31 (by decide) (hts (.fieldLink RX10 75 "VatHouseModel" "inner" "[I") (List.mem_of_getElem? (i := 3) (by exact rfl))) (fun _ h9 => h9) rfl dX10_doesBlocks_150 ?_
      refine lv_iload_n hx hb dX10_doesBlocks_153 rfl (lv_at hl 2 rfl) ?_
      refine va_iald hx hb hK hP 21 20 rfl rfl (by assumption) dX10_doesBlocks_154 ?_
      refine lv_topi (fun z_96 ez_96 => ?_)
      have ez_96 : z_96 = (a 31) kk.toNatClampNeg := ez_96
      refine lv_goto (tgt := 164) hx hb dX10_doesBlocks_155 (by decide) ?_
      refine lv_iload_n hx hb dX10_doesBlocks_164 rfl (lv_at hl 3 rfl) ?_
      refine M_V ⟨hx, hb, hml, hown, hts⟩ (IHR j1 (dl + 1) (by omega) hj1 i a z_96 ck _ hND (by rw [ez_96, hkq, ← hdq]; exact (hND q hVq).2.2.2.1) hc30 hwt (show (i 40).toInt ≤ (i 39).toInt by omega) h01 hk0) (cwV 2 hts gX10_doesBlocks_X10_row rfl rfl rfl (by decide +kernel) ⟨(by first | exact Nat.le_of_ble_eq_true rfl | (simp only [rm_X10_rowE, rm_X10_doesBlocksE]; omega)), (by first | exact Nat.le_of_ble_eq_true rfl | (simp only [rm_X10_rowE, rm_X10_doesBlocksE]; omega))⟩) hP hD hK hS hA hev rfl rfl rfl rfl hl.1 rfl (Nat.le_of_ble_eq_true rfl) dX10_doesBlocks_165 ⟨(by first | exact Nat.le_of_ble_eq_true rfl | (simp only [rm_X10_doesBlocksE]; omega)), (by first | exact Nat.le_of_ble_eq_true rfl | (simp only [rm_X10_doesBlocksE]; omega))⟩ (fun r u H locs hw hP hD hS => ?_)
      obtain ⟨x1_97, x2_98, x40_99, x41_100, x42_101, x43_102, y4_103, y5_104, y6_105, y7_106, y8_107, y9_108, y10_109, y11_110, y14_111, y15_112, y17_113, y18_114⟩ := u
      have hw : (∃ z : Int32, r = some (.int z) ∧ (EvR 0 z_96 0 ck.toNatClampNeg (i, a) (z, (rbI i x1_97 x2_98 x40_99 x41_100 x42_101 x43_102, rbA a y4_103 y5_104 y6_105 y7_106 y8_107 y9_108 y10_109 y11_110 y14_111 y15_112 y17_113 y18_114)))) ∧ ((i 40).toInt ≤ x40_99.toInt ∧ x40_99.toInt ≤ (i 39).toInt ∧ H01 y10_109) := hw
      obtain ⟨⟨z_116, rfl, hz_z_116⟩, hw_115⟩ := hw
      have hP : va_P (dC, dI) vwCl (mw g h0 b (va_up (va_up (va_up (va_up (va_up (va_up i 1 x1_97) 2 x2_98) 40 x40_99) 41 x41_100) 42 x42_101) 43 x43_102) (va_up (va_up (va_up (va_up (va_up (va_up (va_up (va_up (va_up (va_up (va_up (va_up a 4 y4_103) 5 y5_104) 6 y6_105) 7 y7_106) 8 y8_107) 9 y9_108) 10 y10_109) 11 y11_110) 14 y14_111) 15 y15_112) 17 y17_113) 18 y18_114)) _ := hP
      have hD : va_D _ (mw g h0 b (va_up (va_up (va_up (va_up (va_up (va_up i 1 x1_97) 2 x2_98) 40 x40_99) 41 x41_100) 42 x42_101) 43 x43_102) (va_up (va_up (va_up (va_up (va_up (va_up (va_up (va_up (va_up (va_up (va_up (va_up a 4 y4_103) 5 y5_104) 6 y6_105) 7 y7_106) 8 y8_107) 9 y9_108) 10 y10_109) 11 y11_110) 14 y14_111) 15 y15_112) 17 y17_113) 18 y18_114)) := hD
      refine W.eq (g2 := F0 m 168 ls [.int z_116]) rfl ?_
      have hE_117 : EvR 0 (a 31 kk.toNatClampNeg) 0 ck.toNatClampNeg (i, a) (z_116, (rbI i x1_97 x2_98 x40_99 x41_100 x42_101 x43_102, rbA a y4_103 y5_104 y6_105 y7_106 y8_107 y9_108 y10_109 y11_110 y14_111 y15_112 y17_113 y18_114)) := EvR.ou (show ((z_116, (rbI i x1_97 x2_98 x40_99 x41_100 x42_101 x43_102, rbA a y4_103 y5_104 y6_105 y7_106 y8_107 y9_108 y10_109 y11_110 y14_111 y15_112 y17_113 y18_114)) : Int32 × AS) = (z_116, (rbI i x1_97 x2_98 x40_99 x41_100 x42_101 x43_102, rbA a y4_103 y5_104 y6_105 y7_106 y8_107 y9_108 y10_109 y11_110 y14_111 y15_112 y17_113 y18_114)) from by rw [rbI_eq (f := i) (i := i) (Eqx.rf), rbA_eq (f := a) (a := a) (Eqx.rf)]) (by have h7 := hz_z_116; rw [ez_96] at h7; exact h7)
      obtain ⟨hg_118a, hg_118b, hg_118c⟩ := hw_115
      have hg_118a : (i 40).toInt ≤ x40_99.toInt := hg_118a
      have hg_118b : x40_99.toInt ≤ (i 39).toInt := hg_118b
      exact M_i hx hb hr hlocks (x1_97, x2_98, x40_99, x41_100, x42_101, x43_102, y4_103, y5_104, y6_105, y7_106, y8_107, y9_108, y10_109, y11_110, y14_111, y15_112, y17_113, y18_114) hP hD hK hS ⟨⟨_, rfl, Or.inr (Or.inr (Or.inl ⟨(ez_1.symm.trans c_68), (by rw [if_pos hz2_70]; exact hE_117)⟩))⟩, ⟨by omega, by omega, hg_118c⟩⟩ (by first | exact Nat.le_of_ble_eq_true rfl | (simp only [rm_X10_doesBlocksE]; omega)) (by first | exact Nat.le_of_ble_eq_true rfl | (simp only [rm_X10_doesBlocksE]; omega)) dX10_doesBlocks_168
  by_cases c_119 : z_1 = 10
  · refine lv_tableIn (tgt := 169) hx hb dX10_doesBlocks_8 (by rw [c_119]; decide) (by rw [c_119]; decide) (by rw [c_119]; rfl) (by decide) ?_
    refine lv_aload_n hx hb dX10_doesBlocks_169 rfl (lv_at hl 1 rfl) ?_
    refine lv_aload_n hx hb dX10_doesBlocks_170 rfl (lv_at hl 1 rfl) ?_
    refine va_get (D := (dC, dI)) (ci := 10) (v := .ref (b 31)) (C := RX10) (T := TX10) (N := 51) hx hb hts inw_X10_doesBlocks_10 hown hK hP 0 rfl rfl 31 (by decide) (hts (.fieldLink RX10 75 "VatHouseModel" "inner" "[I") (List.mem_of_getElem? (i := 3) (by exact rfl))) (fun _ h9 => h9) rfl dX10_doesBlocks_171 ?_
    refine lv_iload_n hx hb dX10_doesBlocks_174 rfl (lv_at hl 2 rfl) ?_
    refine va_iald hx hb hK hP 21 20 rfl rfl (by assumption) dX10_doesBlocks_175 ?_
    refine lv_topi (fun z_120 ez_120 => ?_)
    have ez_120 : z_120 = (a 31) kk.toNatClampNeg := ez_120
    refine lv_iload_n hx hb dX10_doesBlocks_176 rfl (lv_at hl 3 rfl) ?_
    refine M_V ⟨hx, hb, hml, hown, hts⟩ (IHR j1 (dl + 1) (by omega) hj1 i a z_120 ck _ hND (by rw [ez_120, hkq, ← hdq]; exact (hND q hVq).2.2.2.1) hc30 hwt (show (i 40).toInt ≤ (i 39).toInt by omega) h01 hk0) (cwV 2 hts gX10_doesBlocks_X10_row rfl rfl rfl (by decide +kernel) ⟨(by first | exact Nat.le_of_ble_eq_true rfl | (simp only [rm_X10_rowE, rm_X10_doesBlocksE]; omega)), (by first | exact Nat.le_of_ble_eq_true rfl | (simp only [rm_X10_rowE, rm_X10_doesBlocksE]; omega))⟩) hP hD hK hS hA hev rfl rfl rfl rfl hl.1 rfl (Nat.le_of_ble_eq_true rfl) dX10_doesBlocks_177 ⟨(by first | exact Nat.le_of_ble_eq_true rfl | (simp only [rm_X10_doesBlocksE]; omega)), (by first | exact Nat.le_of_ble_eq_true rfl | (simp only [rm_X10_doesBlocksE]; omega))⟩ (fun r u H locs hw hP hD hS => ?_)
    obtain ⟨x1_121, x2_122, x40_123, x41_124, x42_125, x43_126, y4_127, y5_128, y6_129, y7_130, y8_131, y9_132, y10_133, y11_134, y14_135, y15_136, y17_137, y18_138⟩ := u
    have hw : (∃ z : Int32, r = some (.int z) ∧ (EvR 0 z_120 0 ck.toNatClampNeg (i, a) (z, (rbI i x1_121 x2_122 x40_123 x41_124 x42_125 x43_126, rbA a y4_127 y5_128 y6_129 y7_130 y8_131 y9_132 y10_133 y11_134 y14_135 y15_136 y17_137 y18_138)))) ∧ ((i 40).toInt ≤ x40_123.toInt ∧ x40_123.toInt ≤ (i 39).toInt ∧ H01 y10_133) := hw
    obtain ⟨⟨z_140, rfl, hz_z_140⟩, hw_139⟩ := hw
    have hP : va_P (dC, dI) vwCl (mw g h0 b (va_up (va_up (va_up (va_up (va_up (va_up i 1 x1_121) 2 x2_122) 40 x40_123) 41 x41_124) 42 x42_125) 43 x43_126) (va_up (va_up (va_up (va_up (va_up (va_up (va_up (va_up (va_up (va_up (va_up (va_up a 4 y4_127) 5 y5_128) 6 y6_129) 7 y7_130) 8 y8_131) 9 y9_132) 10 y10_133) 11 y11_134) 14 y14_135) 15 y15_136) 17 y17_137) 18 y18_138)) _ := hP
    have hD : va_D _ (mw g h0 b (va_up (va_up (va_up (va_up (va_up (va_up i 1 x1_121) 2 x2_122) 40 x40_123) 41 x41_124) 42 x42_125) 43 x43_126) (va_up (va_up (va_up (va_up (va_up (va_up (va_up (va_up (va_up (va_up (va_up (va_up a 4 y4_127) 5 y5_128) 6 y6_129) 7 y7_130) 8 y8_131) 9 y9_132) 10 y10_133) 11 y11_134) 14 y14_135) 15 y15_136) 17 y17_137) 18 y18_138)) := hD
    refine W.eq (g2 := F0 m 180 ls [.int z_140]) rfl ?_
    have hE_141 : EvR 0 (a 31 kk.toNatClampNeg) 0 ck.toNatClampNeg (i, a) (z_140, (rbI i x1_121 x2_122 x40_123 x41_124 x42_125 x43_126, rbA a y4_127 y5_128 y6_129 y7_130 y8_131 y9_132 y10_133 y11_134 y14_135 y15_136 y17_137 y18_138)) := EvR.ou (show ((z_140, (rbI i x1_121 x2_122 x40_123 x41_124 x42_125 x43_126, rbA a y4_127 y5_128 y6_129 y7_130 y8_131 y9_132 y10_133 y11_134 y14_135 y15_136 y17_137 y18_138)) : Int32 × AS) = (z_140, (rbI i x1_121 x2_122 x40_123 x41_124 x42_125 x43_126, rbA a y4_127 y5_128 y6_129 y7_130 y8_131 y9_132 y10_133 y11_134 y14_135 y15_136 y17_137 y18_138)) from by rw [rbI_eq (f := i) (i := i) (Eqx.rf), rbA_eq (f := a) (a := a) (Eqx.rf)]) (by have h7 := hz_z_140; rw [ez_120] at h7; exact h7)
    obtain ⟨hg_142a, hg_142b, hg_142c⟩ := hw_139
    have hg_142a : (i 40).toInt ≤ x40_123.toInt := hg_142a
    have hg_142b : x40_123.toInt ≤ (i 39).toInt := hg_142b
    refine lv_istore_n (lv' := [(3, .int z_140), (0, .ref h0), (1, .int kk), (2, .int ck)]) hx hb dX10_doesBlocks_180 rfl hl (by decide) rfl (fun ls hl => ?_)
    refine lv_iload_n hx hb dX10_doesBlocks_181 rfl (lv_at hl 0 rfl) ?_
    refine lv_if_eq (tgt := 192) hx hb dX10_doesBlocks_182 (by decide) (fun c_143 => ?_) (fun c_143 => ?_)
    · have nc_143 := eq_i c_143
      have lc_143 : (0 : Int32).toInt = 0 := by decide
      refine lv_iload_n hx hb dX10_doesBlocks_192 rfl (lv_at hl 0 rfl) ?_
      refine lv_goto (tgt := 207) hx hb dX10_doesBlocks_193 (by decide) ?_
      exact M_i hx hb hr hlocks (x1_121, x2_122, x40_123, x41_124, x42_125, x43_126, y4_127, y5_128, y6_129, y7_130, y8_131, y9_132, y10_133, y11_134, y14_135, y15_136, y17_137, y18_138) hP hD hK hS ⟨⟨_, rfl, Or.inr (Or.inr (Or.inr (Or.inl ⟨(ez_1.symm.trans c_119), (z_140, (rbI i x1_121 x2_122 x40_123 x41_124 x42_125 x43_126, rbA a y4_127 y5_128 y6_129 y7_130 y8_131 y9_132 y10_133 y11_134 y14_135 y15_136 y17_137 y18_138)), hE_141, Or.inl ⟨Or.inl c_143, rfl⟩⟩)))⟩, ⟨by omega, by omega, hg_142c⟩⟩ (by first | exact Nat.le_of_ble_eq_true rfl | (simp only [rm_X10_doesBlocksE]; omega)) (by first | exact Nat.le_of_ble_eq_true rfl | (simp only [rm_X10_doesBlocksE]; omega)) dX10_doesBlocks_207
    · have nc_143 := ne_i c_143
      have lc_143 : (0 : Int32).toInt = 0 := by decide
      refine lv_iload_n hx hb dX10_doesBlocks_185 rfl (lv_at hl 0 rfl) ?_
      refine lv_sipush (v := 1000) hx hb dX10_doesBlocks_186 (by decide) ?_
      refine lv_icmp_ne (tgt := 196) hx hb dX10_doesBlocks_189 (by decide) (fun c_144 => ?_) (fun c_144 => ?_)
      · have nc_144 := ne_i c_144
        have lc_144 : (1000 : Int32).toInt = 1000 := by decide
        refine lv_aload_n hx hb dX10_doesBlocks_196 rfl (lv_at hl 1 rfl) ?_
        refine lv_aload_n hx hb dX10_doesBlocks_197 rfl (lv_at hl 1 rfl) ?_
        refine va_get (D := (dC, dI)) (ci := 10) (v := .ref (b 32)) (C := RX10) (T := TX10) (N := 51) hx hb hts inw_X10_doesBlocks_10 hown hK hP 0 rfl rfl 32 (by decide) (hts (.fieldLink RX10 78 "VatHouseModel" "other" "[I") (List.mem_of_getElem? (i := 4) (by exact rfl))) (fun _ h9 => h9) rfl dX10_doesBlocks_198 ?_
        refine lv_iload_n hx hb dX10_doesBlocks_201 rfl (lv_at hl 2 rfl) ?_
        refine va_iald hx hb hK hP 22 21 rfl rfl (by assumption) dX10_doesBlocks_202 ?_
        refine lv_topi (fun z_145 ez_145 => ?_)
        have ez_145 : z_145 = (a 32) kk.toNatClampNeg := ez_145
        refine lv_iload_n hx hb dX10_doesBlocks_203 rfl (lv_at hl 3 rfl) ?_
        refine M_V ⟨hx, hb, hml, hown, hts⟩ (IHR j1 (dl + 1) (by omega) hj1 (va_up (va_up (va_up (va_up (va_up (va_up i 1 x1_121) 2 x2_122) 40 x40_123) 41 x41_124) 42 x42_125) 43 x43_126) (va_up (va_up (va_up (va_up (va_up (va_up (va_up (va_up (va_up (va_up (va_up (va_up a 4 y4_127) 5 y5_128) 6 y6_129) 7 y7_130) 8 y8_131) 9 y9_132) 10 y10_133) 11 y11_134) 14 y14_135) 15 y15_136) 17 y17_137) 18 y18_138) z_145 ck _ hND (by rw [ez_145, hkq, ← hdq]; exact (hND q hVq).2.2.2.2.1) hc30 hwt (show x40_123.toInt ≤ (i 39).toInt by omega) hg_142c hk0) (cwV 2 hts gX10_doesBlocks_X10_row rfl rfl rfl (by decide +kernel) ⟨(by first | exact Nat.le_of_ble_eq_true rfl | (simp only [rm_X10_rowE, rm_X10_doesBlocksE]; omega)), (by first | exact Nat.le_of_ble_eq_true rfl | (simp only [rm_X10_rowE, rm_X10_doesBlocksE]; omega))⟩) hP hD hK hS hA hev rfl rfl rfl rfl hl.1 rfl (Nat.le_of_ble_eq_true rfl) dX10_doesBlocks_204 ⟨(by first | exact Nat.le_of_ble_eq_true rfl | (simp only [rm_X10_doesBlocksE]; omega)), (by first | exact Nat.le_of_ble_eq_true rfl | (simp only [rm_X10_doesBlocksE]; omega))⟩ (fun r u H locs hw hP hD hS => ?_)
        obtain ⟨x1_146, x2_147, x40_148, x41_149, x42_150, x43_151, y4_152, y5_153, y6_154, y7_155, y8_156, y9_157, y10_158, y11_159, y14_160, y15_161, y17_162, y18_163⟩ := u
        have hw : (∃ z : Int32, r = some (.int z) ∧ (EvR 0 z_145 0 ck.toNatClampNeg ((va_up (va_up (va_up (va_up (va_up (va_up i 1 x1_121) 2 x2_122) 40 x40_123) 41 x41_124) 42 x42_125) 43 x43_126), (va_up (va_up (va_up (va_up (va_up (va_up (va_up (va_up (va_up (va_up (va_up (va_up a 4 y4_127) 5 y5_128) 6 y6_129) 7 y7_130) 8 y8_131) 9 y9_132) 10 y10_133) 11 y11_134) 14 y14_135) 15 y15_136) 17 y17_137) 18 y18_138)) (z, (rbI (va_up (va_up (va_up (va_up (va_up (va_up i 1 x1_121) 2 x2_122) 40 x40_123) 41 x41_124) 42 x42_125) 43 x43_126) x1_146 x2_147 x40_148 x41_149 x42_150 x43_151, rbA (va_up (va_up (va_up (va_up (va_up (va_up (va_up (va_up (va_up (va_up (va_up (va_up a 4 y4_127) 5 y5_128) 6 y6_129) 7 y7_130) 8 y8_131) 9 y9_132) 10 y10_133) 11 y11_134) 14 y14_135) 15 y15_136) 17 y17_137) 18 y18_138) y4_152 y5_153 y6_154 y7_155 y8_156 y9_157 y10_158 y11_159 y14_160 y15_161 y17_162 y18_163)))) ∧ (x40_123.toInt ≤ x40_148.toInt ∧ x40_148.toInt ≤ ((va_up (va_up (va_up (va_up (va_up (va_up i 1 x1_121) 2 x2_122) 40 x40_123) 41 x41_124) 42 x42_125) 43 x43_126) 39).toInt ∧ H01 y10_158) := hw
        obtain ⟨⟨z_165, rfl, hz_z_165⟩, hw_164⟩ := hw
        have hP : va_P (dC, dI) vwCl (mw g h0 b (va_up (va_up (va_up (va_up (va_up (va_up i 1 x1_146) 2 x2_147) 40 x40_148) 41 x41_149) 42 x42_150) 43 x43_151) (va_up (va_up (va_up (va_up (va_up (va_up (va_up (va_up (va_up (va_up (va_up (va_up a 4 y4_152) 5 y5_153) 6 y6_154) 7 y7_155) 8 y8_156) 9 y9_157) 10 y10_158) 11 y11_159) 14 y14_160) 15 y15_161) 17 y17_162) 18 y18_163)) _ := hP
        have hD : va_D _ (mw g h0 b (va_up (va_up (va_up (va_up (va_up (va_up i 1 x1_146) 2 x2_147) 40 x40_148) 41 x41_149) 42 x42_150) 43 x43_151) (va_up (va_up (va_up (va_up (va_up (va_up (va_up (va_up (va_up (va_up (va_up (va_up a 4 y4_152) 5 y5_153) 6 y6_154) 7 y7_155) 8 y8_156) 9 y9_157) 10 y10_158) 11 y11_159) 14 y14_160) 15 y15_161) 17 y17_162) 18 y18_163)) := hD
        refine W.eq (g2 := F0 m 207 ls [.int z_165]) rfl ?_
        have hE_166 : EvR 0 (a 32 kk.toNatClampNeg) 0 ck.toNatClampNeg (rbI i x1_121 x2_122 x40_123 x41_124 x42_125 x43_126, rbA a y4_127 y5_128 y6_129 y7_130 y8_131 y9_132 y10_133 y11_134 y14_135 y15_136 y17_137 y18_138) (z_165, (rbI i x1_146 x2_147 x40_148 x41_149 x42_150 x43_151, rbA a y4_152 y5_153 y6_154 y7_155 y8_156 y9_157 y10_158 y11_159 y14_160 y15_161 y17_162 y18_163)) := EvR.ou (show ((z_165, (rbI (va_up (va_up (va_up (va_up (va_up (va_up i 1 x1_121) 2 x2_122) 40 x40_123) 41 x41_124) 42 x42_125) 43 x43_126) x1_146 x2_147 x40_148 x41_149 x42_150 x43_151, rbA (va_up (va_up (va_up (va_up (va_up (va_up (va_up (va_up (va_up (va_up (va_up (va_up a 4 y4_127) 5 y5_128) 6 y6_129) 7 y7_130) 8 y8_131) 9 y9_132) 10 y10_133) 11 y11_134) 14 y14_135) 15 y15_136) 17 y17_137) 18 y18_138) y4_152 y5_153 y6_154 y7_155 y8_156 y9_157 y10_158 y11_159 y14_160 y15_161 y17_162 y18_163)) : Int32 × AS) = (z_165, (rbI i x1_146 x2_147 x40_148 x41_149 x42_150 x43_151, rbA a y4_152 y5_153 y6_154 y7_155 y8_156 y9_157 y10_158 y11_159 y14_160 y15_161 y17_162 y18_163)) from by rw [rbI_eq (f := (va_up (va_up (va_up (va_up (va_up (va_up i 1 x1_121) 2 x2_122) 40 x40_123) 41 x41_124) 42 x42_125) 43 x43_126)) (i := i) (Eqx.up (by decide) (Eqx.up (by decide) (Eqx.up (by decide) (Eqx.up (by decide) (Eqx.up (by decide) (Eqx.up (by decide) (Eqx.rf))))))), rbA_eq (f := (va_up (va_up (va_up (va_up (va_up (va_up (va_up (va_up (va_up (va_up (va_up (va_up a 4 y4_127) 5 y5_128) 6 y6_129) 7 y7_130) 8 y8_131) 9 y9_132) 10 y10_133) 11 y11_134) 14 y14_135) 15 y15_136) 17 y17_137) 18 y18_138)) (a := a) (Eqx.up (by decide) (Eqx.up (by decide) (Eqx.up (by decide) (Eqx.up (by decide) (Eqx.up (by decide) (Eqx.up (by decide) (Eqx.up (by decide) (Eqx.up (by decide) (Eqx.up (by decide) (Eqx.up (by decide) (Eqx.up (by decide) (Eqx.up (by decide) (Eqx.rf)))))))))))))]) (by have h7 := hz_z_165; rw [ez_145] at h7; exact h7)
        obtain ⟨hg_167a, hg_167b, hg_167c⟩ := hw_164
        have hg_167a : x40_123.toInt ≤ x40_148.toInt := hg_167a
        have hg_167b : x40_148.toInt ≤ (i 39).toInt := hg_167b
        exact M_i hx hb hr hlocks (x1_146, x2_147, x40_148, x41_149, x42_150, x43_151, y4_152, y5_153, y6_154, y7_155, y8_156, y9_157, y10_158, y11_159, y14_160, y15_161, y17_162, y18_163) hP hD hK hS ⟨⟨_, rfl, Or.inr (Or.inr (Or.inr (Or.inl ⟨(ez_1.symm.trans c_119), (z_140, (rbI i x1_121 x2_122 x40_123 x41_124 x42_125 x43_126, rbA a y4_127 y5_128 y6_129 y7_130 y8_131 y9_132 y10_133 y11_134 y14_135 y15_136 y17_137 y18_138)), hE_141, Or.inr ⟨(by rintro (h6 | h6); (exact c_143 h6); (exact c_144 h6)), hE_166⟩⟩)))⟩, ⟨by omega, by omega, hg_167c⟩⟩ (by first | exact Nat.le_of_ble_eq_true rfl | (simp only [rm_X10_doesBlocksE]; omega)) (by first | exact Nat.le_of_ble_eq_true rfl | (simp only [rm_X10_doesBlocksE]; omega)) dX10_doesBlocks_207
      · have nc_144 := eq_i c_144
        have lc_144 : (1000 : Int32).toInt = 1000 := by decide
        refine lv_iload_n hx hb dX10_doesBlocks_192 rfl (lv_at hl 0 rfl) ?_
        refine lv_goto (tgt := 207) hx hb dX10_doesBlocks_193 (by decide) ?_
        exact M_i hx hb hr hlocks (x1_121, x2_122, x40_123, x41_124, x42_125, x43_126, y4_127, y5_128, y6_129, y7_130, y8_131, y9_132, y10_133, y11_134, y14_135, y15_136, y17_137, y18_138) hP hD hK hS ⟨⟨_, rfl, Or.inr (Or.inr (Or.inr (Or.inl ⟨(ez_1.symm.trans c_119), (z_140, (rbI i x1_121 x2_122 x40_123 x41_124 x42_125 x43_126, rbA a y4_127 y5_128 y6_129 y7_130 y8_131 y9_132 y10_133 y11_134 y14_135 y15_136 y17_137 y18_138)), hE_141, Or.inl ⟨Or.inr c_144, rfl⟩⟩)))⟩, ⟨by omega, by omega, hg_142c⟩⟩ (by first | exact Nat.le_of_ble_eq_true rfl | (simp only [rm_X10_doesBlocksE]; omega)) (by first | exact Nat.le_of_ble_eq_true rfl | (simp only [rm_X10_doesBlocksE]; omega)) dX10_doesBlocks_207
  refine lv_tableOut (tgt := 208) hx hb dX10_doesBlocks_8 (tab_out_7_10 c_2 c_34 c_68 c_119) (by decide) ?_
  refine lv_aload_n hx hb dX10_doesBlocks_208 rfl (lv_at hl 1 rfl) ?_
  refine lv_aload_n hx hb dX10_doesBlocks_209 rfl (lv_at hl 1 rfl) ?_
  refine va_get (D := (dC, dI)) (ci := 10) (v := .ref (b 31)) (C := RX10) (T := TX10) (N := 51) hx hb hts inw_X10_doesBlocks_10 hown hK hP 0 rfl rfl 31 (by decide) (hts (.fieldLink RX10 75 "VatHouseModel" "inner" "[I") (List.mem_of_getElem? (i := 3) (by exact rfl))) (fun _ h9 => h9) rfl dX10_doesBlocks_210 ?_
  refine lv_iload_n hx hb dX10_doesBlocks_213 rfl (lv_at hl 2 rfl) ?_
  refine va_iald hx hb hK hP 21 20 rfl rfl (by assumption) dX10_doesBlocks_214 ?_
  refine lv_topi (fun z_168 ez_168 => ?_)
  have ez_168 : z_168 = (a 31) kk.toNatClampNeg := ez_168
  refine lv_iload_n hx hb dX10_doesBlocks_215 rfl (lv_at hl 3 rfl) ?_
  refine M_V ⟨hx, hb, hml, hown, hts⟩ (IHR j1 (dl + 1) (by omega) hj1 i a z_168 ck _ hND (by rw [ez_168, hkq, ← hdq]; exact (hND q hVq).2.2.2.1) hc30 hwt (show (i 40).toInt ≤ (i 39).toInt by omega) h01 hk0) (cwV 2 hts gX10_doesBlocks_X10_row rfl rfl rfl (by decide +kernel) ⟨(by first | exact Nat.le_of_ble_eq_true rfl | (simp only [rm_X10_rowE, rm_X10_doesBlocksE]; omega)), (by first | exact Nat.le_of_ble_eq_true rfl | (simp only [rm_X10_rowE, rm_X10_doesBlocksE]; omega))⟩) hP hD hK hS hA hev rfl rfl rfl rfl hl.1 rfl (Nat.le_of_ble_eq_true rfl) dX10_doesBlocks_216 ⟨(by first | exact Nat.le_of_ble_eq_true rfl | (simp only [rm_X10_doesBlocksE]; omega)), (by first | exact Nat.le_of_ble_eq_true rfl | (simp only [rm_X10_doesBlocksE]; omega))⟩ (fun r u H locs hw hP hD hS => ?_)
  obtain ⟨x1_169, x2_170, x40_171, x41_172, x42_173, x43_174, y4_175, y5_176, y6_177, y7_178, y8_179, y9_180, y10_181, y11_182, y14_183, y15_184, y17_185, y18_186⟩ := u
  have hw : (∃ z : Int32, r = some (.int z) ∧ (EvR 0 z_168 0 ck.toNatClampNeg (i, a) (z, (rbI i x1_169 x2_170 x40_171 x41_172 x42_173 x43_174, rbA a y4_175 y5_176 y6_177 y7_178 y8_179 y9_180 y10_181 y11_182 y14_183 y15_184 y17_185 y18_186)))) ∧ ((i 40).toInt ≤ x40_171.toInt ∧ x40_171.toInt ≤ (i 39).toInt ∧ H01 y10_181) := hw
  obtain ⟨⟨z_188, rfl, hz_z_188⟩, hw_187⟩ := hw
  have hP : va_P (dC, dI) vwCl (mw g h0 b (va_up (va_up (va_up (va_up (va_up (va_up i 1 x1_169) 2 x2_170) 40 x40_171) 41 x41_172) 42 x42_173) 43 x43_174) (va_up (va_up (va_up (va_up (va_up (va_up (va_up (va_up (va_up (va_up (va_up (va_up a 4 y4_175) 5 y5_176) 6 y6_177) 7 y7_178) 8 y8_179) 9 y9_180) 10 y10_181) 11 y11_182) 14 y14_183) 15 y15_184) 17 y17_185) 18 y18_186)) _ := hP
  have hD : va_D _ (mw g h0 b (va_up (va_up (va_up (va_up (va_up (va_up i 1 x1_169) 2 x2_170) 40 x40_171) 41 x41_172) 42 x42_173) 43 x43_174) (va_up (va_up (va_up (va_up (va_up (va_up (va_up (va_up (va_up (va_up (va_up (va_up a 4 y4_175) 5 y5_176) 6 y6_177) 7 y7_178) 8 y8_179) 9 y9_180) 10 y10_181) 11 y11_182) 14 y14_183) 15 y15_184) 17 y17_185) 18 y18_186)) := hD
  refine W.eq (g2 := F0 m 219 ls [.int z_188]) rfl ?_
  have hE_189 : EvR 0 (a 31 kk.toNatClampNeg) 0 ck.toNatClampNeg (i, a) (z_188, (rbI i x1_169 x2_170 x40_171 x41_172 x42_173 x43_174, rbA a y4_175 y5_176 y6_177 y7_178 y8_179 y9_180 y10_181 y11_182 y14_183 y15_184 y17_185 y18_186)) := EvR.ou (show ((z_188, (rbI i x1_169 x2_170 x40_171 x41_172 x42_173 x43_174, rbA a y4_175 y5_176 y6_177 y7_178 y8_179 y9_180 y10_181 y11_182 y14_183 y15_184 y17_185 y18_186)) : Int32 × AS) = (z_188, (rbI i x1_169 x2_170 x40_171 x41_172 x42_173 x43_174, rbA a y4_175 y5_176 y6_177 y7_178 y8_179 y9_180 y10_181 y11_182 y14_183 y15_184 y17_185 y18_186)) from by rw [rbI_eq (f := i) (i := i) (Eqx.rf), rbA_eq (f := a) (a := a) (Eqx.rf)]) (by have h7 := hz_z_188; rw [ez_168] at h7; exact h7)
  obtain ⟨hg_190a, hg_190b, hg_190c⟩ := hw_187
  have hg_190a : (i 40).toInt ≤ x40_171.toInt := hg_190a
  have hg_190b : x40_171.toInt ≤ (i 39).toInt := hg_190b
  refine lv_istore_n (lv' := [(3, .int z_188), (0, .ref h0), (1, .int kk), (2, .int ck)]) hx hb dX10_doesBlocks_219 rfl hl (by decide) rfl (fun ls hl => ?_)
  refine lv_iload_n hx hb dX10_doesBlocks_220 rfl (lv_at hl 0 rfl) ?_
  refine lv_sipush (v := 1000) hx hb dX10_doesBlocks_221 (by decide) ?_
  refine lv_icmp_ne (tgt := 229) hx hb dX10_doesBlocks_224 (by decide) (fun c_191 => ?_) (fun c_191 => ?_)
  · have nc_191 := ne_i c_191
    have lc_191 : (1000 : Int32).toInt = 1000 := by decide
    refine lv_aload_n hx hb dX10_doesBlocks_229 rfl (lv_at hl 1 rfl) ?_
    refine lv_aload_n hx hb dX10_doesBlocks_230 rfl (lv_at hl 1 rfl) ?_
    refine va_get (D := (dC, dI)) (ci := 10) (v := .ref (b 32)) (C := RX10) (T := TX10) (N := 51) hx hb hts inw_X10_doesBlocks_10 hown hK hP 0 rfl rfl 32 (by decide) (hts (.fieldLink RX10 78 "VatHouseModel" "other" "[I") (List.mem_of_getElem? (i := 4) (by exact rfl))) (fun _ h9 => h9) rfl dX10_doesBlocks_231 ?_
    refine lv_iload_n hx hb dX10_doesBlocks_234 rfl (lv_at hl 2 rfl) ?_
    refine va_iald hx hb hK hP 22 21 rfl rfl (by assumption) dX10_doesBlocks_235 ?_
    refine lv_topi (fun z_192 ez_192 => ?_)
    have ez_192 : z_192 = (a 32) kk.toNatClampNeg := ez_192
    refine lv_iload_n hx hb dX10_doesBlocks_236 rfl (lv_at hl 3 rfl) ?_
    refine M_V ⟨hx, hb, hml, hown, hts⟩ (IHR j1 (dl + 1) (by omega) hj1 (va_up (va_up (va_up (va_up (va_up (va_up i 1 x1_169) 2 x2_170) 40 x40_171) 41 x41_172) 42 x42_173) 43 x43_174) (va_up (va_up (va_up (va_up (va_up (va_up (va_up (va_up (va_up (va_up (va_up (va_up a 4 y4_175) 5 y5_176) 6 y6_177) 7 y7_178) 8 y8_179) 9 y9_180) 10 y10_181) 11 y11_182) 14 y14_183) 15 y15_184) 17 y17_185) 18 y18_186) z_192 ck _ hND (by rw [ez_192, hkq, ← hdq]; exact (hND q hVq).2.2.2.2.1) hc30 hwt (show x40_171.toInt ≤ (i 39).toInt by omega) hg_190c hk0) (cwV 2 hts gX10_doesBlocks_X10_row rfl rfl rfl (by decide +kernel) ⟨(by first | exact Nat.le_of_ble_eq_true rfl | (simp only [rm_X10_rowE, rm_X10_doesBlocksE]; omega)), (by first | exact Nat.le_of_ble_eq_true rfl | (simp only [rm_X10_rowE, rm_X10_doesBlocksE]; omega))⟩) hP hD hK hS hA hev rfl rfl rfl rfl hl.1 rfl (Nat.le_of_ble_eq_true rfl) dX10_doesBlocks_237 ⟨(by first | exact Nat.le_of_ble_eq_true rfl | (simp only [rm_X10_doesBlocksE]; omega)), (by first | exact Nat.le_of_ble_eq_true rfl | (simp only [rm_X10_doesBlocksE]; omega))⟩ (fun r u H locs hw hP hD hS => ?_)
    obtain ⟨x1_193, x2_194, x40_195, x41_196, x42_197, x43_198, y4_199, y5_200, y6_201, y7_202, y8_203, y9_204, y10_205, y11_206, y14_207, y15_208, y17_209, y18_210⟩ := u
    have hw : (∃ z : Int32, r = some (.int z) ∧ (EvR 0 z_192 0 ck.toNatClampNeg ((va_up (va_up (va_up (va_up (va_up (va_up i 1 x1_169) 2 x2_170) 40 x40_171) 41 x41_172) 42 x42_173) 43 x43_174), (va_up (va_up (va_up (va_up (va_up (va_up (va_up (va_up (va_up (va_up (va_up (va_up a 4 y4_175) 5 y5_176) 6 y6_177) 7 y7_178) 8 y8_179) 9 y9_180) 10 y10_181) 11 y11_182) 14 y14_183) 15 y15_184) 17 y17_185) 18 y18_186)) (z, (rbI (va_up (va_up (va_up (va_up (va_up (va_up i 1 x1_169) 2 x2_170) 40 x40_171) 41 x41_172) 42 x42_173) 43 x43_174) x1_193 x2_194 x40_195 x41_196 x42_197 x43_198, rbA (va_up (va_up (va_up (va_up (va_up (va_up (va_up (va_up (va_up (va_up (va_up (va_up a 4 y4_175) 5 y5_176) 6 y6_177) 7 y7_178) 8 y8_179) 9 y9_180) 10 y10_181) 11 y11_182) 14 y14_183) 15 y15_184) 17 y17_185) 18 y18_186) y4_199 y5_200 y6_201 y7_202 y8_203 y9_204 y10_205 y11_206 y14_207 y15_208 y17_209 y18_210)))) ∧ (x40_171.toInt ≤ x40_195.toInt ∧ x40_195.toInt ≤ ((va_up (va_up (va_up (va_up (va_up (va_up i 1 x1_169) 2 x2_170) 40 x40_171) 41 x41_172) 42 x42_173) 43 x43_174) 39).toInt ∧ H01 y10_205) := hw
    obtain ⟨⟨z_212, rfl, hz_z_212⟩, hw_211⟩ := hw
    have hP : va_P (dC, dI) vwCl (mw g h0 b (va_up (va_up (va_up (va_up (va_up (va_up i 1 x1_193) 2 x2_194) 40 x40_195) 41 x41_196) 42 x42_197) 43 x43_198) (va_up (va_up (va_up (va_up (va_up (va_up (va_up (va_up (va_up (va_up (va_up (va_up a 4 y4_199) 5 y5_200) 6 y6_201) 7 y7_202) 8 y8_203) 9 y9_204) 10 y10_205) 11 y11_206) 14 y14_207) 15 y15_208) 17 y17_209) 18 y18_210)) _ := hP
    have hD : va_D _ (mw g h0 b (va_up (va_up (va_up (va_up (va_up (va_up i 1 x1_193) 2 x2_194) 40 x40_195) 41 x41_196) 42 x42_197) 43 x43_198) (va_up (va_up (va_up (va_up (va_up (va_up (va_up (va_up (va_up (va_up (va_up (va_up a 4 y4_199) 5 y5_200) 6 y6_201) 7 y7_202) 8 y8_203) 9 y9_204) 10 y10_205) 11 y11_206) 14 y14_207) 15 y15_208) 17 y17_209) 18 y18_210)) := hD
    refine W.eq (g2 := F0 m 240 ls [.int z_212]) rfl ?_
    have hE_213 : EvR 0 (a 32 kk.toNatClampNeg) 0 ck.toNatClampNeg (rbI i x1_169 x2_170 x40_171 x41_172 x42_173 x43_174, rbA a y4_175 y5_176 y6_177 y7_178 y8_179 y9_180 y10_181 y11_182 y14_183 y15_184 y17_185 y18_186) (z_212, (rbI i x1_193 x2_194 x40_195 x41_196 x42_197 x43_198, rbA a y4_199 y5_200 y6_201 y7_202 y8_203 y9_204 y10_205 y11_206 y14_207 y15_208 y17_209 y18_210)) := EvR.ou (show ((z_212, (rbI (va_up (va_up (va_up (va_up (va_up (va_up i 1 x1_169) 2 x2_170) 40 x40_171) 41 x41_172) 42 x42_173) 43 x43_174) x1_193 x2_194 x40_195 x41_196 x42_197 x43_198, rbA (va_up (va_up (va_up (va_up (va_up (va_up (va_up (va_up (va_up (va_up (va_up (va_up a 4 y4_175) 5 y5_176) 6 y6_177) 7 y7_178) 8 y8_179) 9 y9_180) 10 y10_181) 11 y11_182) 14 y14_183) 15 y15_184) 17 y17_185) 18 y18_186) y4_199 y5_200 y6_201 y7_202 y8_203 y9_204 y10_205 y11_206 y14_207 y15_208 y17_209 y18_210)) : Int32 × AS) = (z_212, (rbI i x1_193 x2_194 x40_195 x41_196 x42_197 x43_198, rbA a y4_199 y5_200 y6_201 y7_202 y8_203 y9_204 y10_205 y11_206 y14_207 y15_208 y17_209 y18_210)) from by rw [rbI_eq (f := (va_up (va_up (va_up (va_up (va_up (va_up i 1 x1_169) 2 x2_170) 40 x40_171) 41 x41_172) 42 x42_173) 43 x43_174)) (i := i) (Eqx.up (by decide) (Eqx.up (by decide) (Eqx.up (by decide) (Eqx.up (by decide) (Eqx.up (by decide) (Eqx.up (by decide) (Eqx.rf))))))), rbA_eq (f := (va_up (va_up (va_up (va_up (va_up (va_up (va_up (va_up (va_up (va_up (va_up (va_up a 4 y4_175) 5 y5_176) 6 y6_177) 7 y7_178) 8 y8_179) 9 y9_180) 10 y10_181) 11 y11_182) 14 y14_183) 15 y15_184) 17 y17_185) 18 y18_186)) (a := a) (Eqx.up (by decide) (Eqx.up (by decide) (Eqx.up (by decide) (Eqx.up (by decide) (Eqx.up (by decide) (Eqx.up (by decide) (Eqx.up (by decide) (Eqx.up (by decide) (Eqx.up (by decide) (Eqx.up (by decide) (Eqx.up (by decide) (Eqx.up (by decide) (Eqx.rf)))))))))))))]) (by have h7 := hz_z_212; rw [ez_192] at h7; exact h7)
    obtain ⟨hg_214a, hg_214b, hg_214c⟩ := hw_211
    have hg_214a : x40_171.toInt ≤ x40_195.toInt := hg_214a
    have hg_214b : x40_195.toInt ≤ (i 39).toInt := hg_214b
    refine lv_istore (lv' := [(4, .int z_212), (3, .int z_188), (0, .ref h0), (1, .int kk), (2, .int ck)]) hx hb dX10_doesBlocks_240 hl (by decide) rfl (fun ls hl => ?_)
    refine lv_iload hx hb dX10_doesBlocks_242 (lv_at hl 0 rfl) ?_
    refine lv_if_eq (tgt := 252) hx hb dX10_doesBlocks_244 (by decide) (fun c_215 => ?_) (fun c_215 => ?_)
    · have nc_215 := eq_i c_215
      have lc_215 : (0 : Int32).toInt = 0 := by decide
      refine lv_iload_n hx hb dX10_doesBlocks_252 rfl (lv_at hl 1 rfl) ?_
      exact M_i hx hb hr hlocks (x1_193, x2_194, x40_195, x41_196, x42_197, x43_198, y4_199, y5_200, y6_201, y7_202, y8_203, y9_204, y10_205, y11_206, y14_207, y15_208, y17_209, y18_210) hP hD hK hS ⟨⟨_, rfl, Or.inr (Or.inr (Or.inr (Or.inr ⟨⟨fun h6 => c_2 (ez_1.trans h6), fun h6 => c_34 (ez_1.trans h6), fun h6 => c_68 (ez_1.trans h6), fun h6 => c_119 (ez_1.trans h6)⟩, (z_188, (rbI i x1_169 x2_170 x40_171 x41_172 x42_173 x43_174, rbA a y4_175 y5_176 y6_177 y7_178 y8_179 y9_180 y10_181 y11_182 y14_183 y15_184 y17_185 y18_186)), hE_189, Or.inr ⟨c_191, (z_212, (rbI i x1_193 x2_194 x40_195 x41_196 x42_197 x43_198, rbA a y4_199 y5_200 y6_201 y7_202 y8_203 y9_204 y10_205 y11_206 y14_207 y15_208 y17_209 y18_210)), hE_213, (by show _ = ((if z_212 = 0 then z_188 else z_212), _); rw [if_pos c_215])⟩⟩)))⟩, ⟨by omega, by omega, hg_214c⟩⟩ (by first | exact Nat.le_of_ble_eq_true rfl | (simp only [rm_X10_doesBlocksE]; omega)) (by first | exact Nat.le_of_ble_eq_true rfl | (simp only [rm_X10_doesBlocksE]; omega)) dX10_doesBlocks_253
    · have nc_215 := ne_i c_215
      have lc_215 : (0 : Int32).toInt = 0 := by decide
      refine lv_iload hx hb dX10_doesBlocks_247 (lv_at hl 0 rfl) ?_
      refine lv_goto (tgt := 253) hx hb dX10_doesBlocks_249 (by decide) ?_
      exact M_i hx hb hr hlocks (x1_193, x2_194, x40_195, x41_196, x42_197, x43_198, y4_199, y5_200, y6_201, y7_202, y8_203, y9_204, y10_205, y11_206, y14_207, y15_208, y17_209, y18_210) hP hD hK hS ⟨⟨_, rfl, Or.inr (Or.inr (Or.inr (Or.inr ⟨⟨fun h6 => c_2 (ez_1.trans h6), fun h6 => c_34 (ez_1.trans h6), fun h6 => c_68 (ez_1.trans h6), fun h6 => c_119 (ez_1.trans h6)⟩, (z_188, (rbI i x1_169 x2_170 x40_171 x41_172 x42_173 x43_174, rbA a y4_175 y5_176 y6_177 y7_178 y8_179 y9_180 y10_181 y11_182 y14_183 y15_184 y17_185 y18_186)), hE_189, Or.inr ⟨c_191, (z_212, (rbI i x1_193 x2_194 x40_195 x41_196 x42_197 x43_198, rbA a y4_199 y5_200 y6_201 y7_202 y8_203 y9_204 y10_205 y11_206 y14_207 y15_208 y17_209 y18_210)), hE_213, (by show _ = ((if z_212 = 0 then z_188 else z_212), _); rw [if_neg c_215])⟩⟩)))⟩, ⟨by omega, by omega, hg_214c⟩⟩ (by first | exact Nat.le_of_ble_eq_true rfl | (simp only [rm_X10_doesBlocksE]; omega)) (by first | exact Nat.le_of_ble_eq_true rfl | (simp only [rm_X10_doesBlocksE]; omega)) dX10_doesBlocks_253
  · have nc_191 := eq_i c_191
    have lc_191 : (1000 : Int32).toInt = 1000 := by decide
    refine lv_iload_n hx hb dX10_doesBlocks_227 rfl (lv_at hl 0 rfl) ?_
    exact M_i hx hb hr hlocks (x1_169, x2_170, x40_171, x41_172, x42_173, x43_174, y4_175, y5_176, y6_177, y7_178, y8_179, y9_180, y10_181, y11_182, y14_183, y15_184, y17_185, y18_186) hP hD hK hS ⟨⟨_, rfl, Or.inr (Or.inr (Or.inr (Or.inr ⟨⟨fun h6 => c_2 (ez_1.trans h6), fun h6 => c_34 (ez_1.trans h6), fun h6 => c_68 (ez_1.trans h6), fun h6 => c_119 (ez_1.trans h6)⟩, (z_188, (rbI i x1_169 x2_170 x40_171 x41_172 x42_173 x43_174, rbA a y4_175 y5_176 y6_177 y7_178 y8_179 y9_180 y10_181 y11_182 y14_183 y15_184 y17_185 y18_186)), hE_189, Or.inl ⟨c_191, rfl⟩⟩)))⟩, ⟨by omega, by omega, hg_190c⟩⟩ (by first | exact Nat.le_of_ble_eq_true rfl | (simp only [rm_X10_doesBlocksE]; omega)) (by first | exact Nat.le_of_ble_eq_true rfl | (simp only [rm_X10_doesBlocksE]; omega)) dX10_doesBlocks_228

theorem dpA_01 {s : AS} {c v : Nat} {m : Int32} (h : H01 (s.2 10)) : H01 ((dpA s c v m).2.2 10) := by
  unfold dpA
  split
  · exact h
  · split
    · exact h
    · exact h.u1

set_option maxHeartbeats 2000000 in
set_option maxRecDepth 100000 in
theorem m_X10_doesE (l : Launch) (dC : Nat → ClassId) (dI : Nat → Nat → Nat) (sa : Nat → Nat) (g : Nat → Nat) (h0 : Nat) (b : Nat → Nat) (V : Nat → Prop) (dp : Nat → Nat) (j : Nat) (dl : Nat) (i : Nat → Int32) (a : Nat → Nat → Int32) (kk : Int32) (ck : Int32) (sz : Nat) (hND : ND V dp (a 26) (a 27) (a 31) (a 32) (a 33)) (hj : dl + j = 9) (hnode : ∃ q : Nat, kk = nI q ∧ V q ∧ dp q = dl) (hc30 : vp_in ck 30) (hwt : 1 ≤ ((a 13) ck.toNatClampNeg).toInt ∧ ((a 13) ck.toNatClampNeg).toInt ≤ 50) (hL : (i 40).toInt ≤ (i 39).toInt) (h01 : H01 (a 10)) (hk0 : ∀ k : Nat, V k → 0 ≤ ((a 26) k).toInt) (IHR : ∀ j' dl' : Nat, dl' + j' = 9 → j = j' + 1 → ∀ (i : Nat → Int32) (a : Nat → Nat → Int32) (hn : Int32) (ck : Int32) (sz : Nat) (hND : ND V dp (a 26) (a 27) (a 31) (a 32) (a 33)) (hlk0 : lk V dp dl' hn) (hc30 : vp_in ck 30) (hwt : 1 ≤ ((a 13) ck.toNatClampNeg).toInt ∧ ((a 13) ck.toNatClampNeg).toInt ≤ 50) (hL : (i 40).toInt ≤ (i 39).toInt) (h01 : H01 (a 10)) (hk0 : ∀ k : Nat, V k → 0 ≤ ((a 26) k).toInt), CT l dC dI sa yX10_row wsX10_row (rm_X10_rowE V dp j' dl') [.ref h0, .int hn, .int ck] (mw g h0 b i a) (tyM g) sz (fun (r : Option Value) (u : Int32 × Int32 × Int32 × Int32 × Int32 × Int32 × (Nat → Int32) × (Nat → Int32) × (Nat → Int32) × (Nat → Int32) × (Nat → Int32) × (Nat → Int32) × (Nat → Int32) × (Nat → Int32) × (Nat → Int32) × (Nat → Int32) × (Nat → Int32) × (Nat → Int32)) => match u with | (x1, x2, x40, x41, x42, x43, y4, y5, y6, y7, y8, y9, y10, y11, y14, y15, y17, y18) => (∃ z : Int32, r = some (.int z) ∧ (EvR 0 hn 0 ck.toNatClampNeg (i, a) (z, (rbI i x1 x2 x40 x41 x42 x43, rbA a y4 y5 y6 y7 y8 y9 y10 y11 y14 y15 y17 y18)))) ∧ ((i 40).toInt ≤ x40.toInt ∧ x40.toInt ≤ (i 39).toInt ∧ H01 y10)) (fun (u : Int32 × Int32 × Int32 × Int32 × Int32 × Int32 × (Nat → Int32) × (Nat → Int32) × (Nat → Int32) × (Nat → Int32) × (Nat → Int32) × (Nat → Int32) × (Nat → Int32) × (Nat → Int32) × (Nat → Int32) × (Nat → Int32) × (Nat → Int32) × (Nat → Int32)) => match u with | (x1, x2, x40, x41, x42, x43, y4, y5, y6, y7, y8, y9, y10, y11, y14, y15, y17, y18) => mw g h0 b (va_up (va_up (va_up (va_up (va_up (va_up i 1 x1) 2 x2) 40 x40) 41 x41) 42 x42) 43 x43) (va_up (va_up (va_up (va_up (va_up (va_up (va_up (va_up (va_up (va_up (va_up (va_up a 4 y4) 5 y5) 6 y6) 7 y7) 8 y8) 9 y9) 10 y10) 11 y11) 14 y14) 15 y15) 17 y17) 18 y18)) (fun _ => []) 0 0) : CT l dC dI sa yX10_does wsX10_does (rm_X10_doesE V dp j dl) [.ref h0, .int kk, .int ck] (mw g h0 b i a) (tyM g) sz (fun (r : Option Value) (u : Int32 × Int32 × Int32 × Int32 × Int32 × Int32 × (Nat → Int32) × (Nat → Int32) × (Nat → Int32) × (Nat → Int32) × (Nat → Int32) × (Nat → Int32) × (Nat → Int32) × (Nat → Int32) × (Nat → Int32) × (Nat → Int32) × (Nat → Int32) × (Nat → Int32)) => match u with | (x1, x2, x40, x41, x42, x43, y4, y5, y6, y7, y8, y9, y10, y11, y14, y15, y17, y18) => (∃ z : Int32, r = some (.int z) ∧ ((z = 0 → (i 40).toInt < x40.toInt) ∧ EvR 1 0 kk.toNatClampNeg ck.toNatClampNeg (i, a) (z, (rbI i x1 x2 x40 x41 x42 x43, rbA a y4 y5 y6 y7 y8 y9 y10 y11 y14 y15 y17 y18)))) ∧ ((i 40).toInt ≤ x40.toInt ∧ x40.toInt ≤ (i 39).toInt ∧ H01 y10)) (fun (u : Int32 × Int32 × Int32 × Int32 × Int32 × Int32 × (Nat → Int32) × (Nat → Int32) × (Nat → Int32) × (Nat → Int32) × (Nat → Int32) × (Nat → Int32) × (Nat → Int32) × (Nat → Int32) × (Nat → Int32) × (Nat → Int32) × (Nat → Int32) × (Nat → Int32)) => match u with | (x1, x2, x40, x41, x42, x43, y4, y5, y6, y7, y8, y9, y10, y11, y14, y15, y17, y18) => mw g h0 b (va_up (va_up (va_up (va_up (va_up (va_up i 1 x1) 2 x2) 40 x40) 41 x41) 42 x42) 43 x43) (va_up (va_up (va_up (va_up (va_up (va_up (va_up (va_up (va_up (va_up (va_up (va_up a 4 y4) 5 y5) 6 y6) 7 y7) 8 y8) 9 y9) 10 y10) 11 y11) 14 y14) 15 y15) 17 y17) 18 y18)) (fun _ => []) 0 0 := by
  refine CT.start (cc := cX10_does) (maxL := 3) (ret := (some .int)) (by decide) rfl (Nat.le_of_ble_eq_true rfl) ?_
  intro p e s m below meth c ls hst hP hK hD hev hS hl
  obtain ⟨hx, hb, hr, hml, hts, hown, hlocks, hin⟩ := hst
  have hown : s.vm.findClass RX10 = some m.cls := hown
  have hA : ∀ q : Nat, s.heap.size ≤ q → va_A (mw g h0 b i a) s.heap.size q := fun _ h => Or.inr h
  have hl : lv_has ls 3 [(0, .ref h0), (1, .int kk), (2, .int ck)] := hl
  obtain ⟨q, hq, hVq, hdq⟩ := hnode
  have hq27 := (hND q hVq).1
  have hkq : kk.toNatClampNeg = q := by rw [hq]; exact nI_clamp (by omega)
  have hk : vp_in kk 2700 := by rw [hq]; exact vp_in_nI hq27 (by decide)
  refine lv_aload_n hx hb dX10_does_0 rfl (lv_at hl 0 rfl) ?_
  refine M_V ⟨hx, hb, hml, hown, hts⟩ (m_X10_countsE l dC dI sa g h0 b i a  _ ) (cwV 0 hts gX10_does_X10_counts rfl rfl rfl (by decide +kernel) ⟨(by first | exact Nat.le_of_ble_eq_true rfl | (simp only [rm_X10_countsE, rm_X10_doesE]; omega)), (by first | exact Nat.le_of_ble_eq_true rfl | (simp only [rm_X10_countsE, rm_X10_doesE]; omega))⟩) hP hD hK hS hA hev rfl rfl rfl rfl hl.1 rfl (Nat.le_of_ble_eq_true rfl) dX10_does_1 ⟨(by first | exact Nat.le_of_ble_eq_true rfl | (simp only [rm_X10_doesE]; omega)), (by first | exact Nat.le_of_ble_eq_true rfl | (simp only [rm_X10_doesE]; omega))⟩ (fun r u H locs hw hP hD hS => ?_)
  obtain ⟨x40_1, rfl⟩ : ∃ z, z = u := ⟨_, rfl⟩
  have hw : ((r = some (.int 0) ∧ ((i 40) = (i 39) ∧ x40_1 = (i 40))) ∨ (r = some (.int 1) ∧ (¬ (i 40) = (i 39) ∧ x40_1 = (i 40) + 1))) ∧ (True) := hw
  obtain ⟨⟨rfl, hz2_3⟩ | ⟨rfl, hz2_3⟩, hw_2⟩ := hw
  · have hP : va_P (dC, dI) vwCl (mw g h0 b (va_up i 40 x40_1) a) _ := hP
    have hD : va_D _ (mw g h0 b (va_up i 40 x40_1) a) := hD
    refine W.eq (g2 := F0 m 4 ls [.int 0]) rfl ?_
    have hct9 := congrArg Int32.toInt hz2_3.2
    refine lv_if_ne (tgt := 11) hx hb dX10_does_4 (by decide) (fun c_4 => absurd c_4 (by decide)) (fun _ => ?_)
    refine lv_sipush (v := 1000) hx hb dX10_does_7 (by decide) ?_
    exact M_i hx hb hr hlocks ((i 1), (i 2), x40_1, (i 41), (i 42), (i 43), (a 4), (a 5), (a 6), (a 7), (a 8), (a 9), (a 10), (a 11), (a 14), (a 15), (a 17), (a 18)) hP hD hK hS ⟨⟨_, rfl, ⟨fun h9 => absurd h9 (by decide), (EvR.ou (congrArg (fun s9 : AS => ((1000 : Int32), s9)) (show (i, a) = (rbI i (i 1) (i 2) x40_1 (i 41) (i 42) (i 43), rbA a (a 4) (a 5) (a 6) (a 7) (a 8) (a 9) (a 10) (a 11) (a 14) (a 15) (a 17) (a 18)) from rb_of (s := (i, a)) (s' := (i, a)) (FK.rf) rfl rfl hz2_3.2 rfl rfl rfl rfl rfl rfl rfl rfl rfl rfl rfl rfl rfl rfl rfl)) (EvR.lim hz2_3.1))⟩⟩, ⟨by omega, by omega, h01⟩⟩ (by first | exact Nat.le_of_ble_eq_true rfl | (simp only [rm_X10_doesE]; omega)) (by first | exact Nat.le_of_ble_eq_true rfl | (simp only [rm_X10_doesE]; omega)) dX10_does_10
  · have hP : va_P (dC, dI) vwCl (mw g h0 b (va_up i 40 x40_1) a) _ := hP
    have hD : va_D _ (mw g h0 b (va_up i 40 x40_1) a) := hD
    refine W.eq (g2 := F0 m 4 ls [.int 1]) rfl ?_
    have hct1 := cnt_1 (by omega) hz2_3.1 hz2_3.2
    refine lv_if_ne (tgt := 11) hx hb dX10_does_4 (by decide) (fun _ => ?_) (fun c_5 => absurd c_5 (by decide))
    refine lv_aload_n hx hb dX10_does_11 rfl (lv_at hl 0 rfl) ?_
    refine va_get (D := (dC, dI)) (ci := 10) (v := .ref (b 26)) (C := RX10) (T := TX10) (N := 51) hx hb hts inw_X10_does_10 hown hK hP 0 rfl rfl 26 (by decide) (hts (.fieldLink RX10 60 "VatHouseModel" "kind" "[I") (List.mem_of_getElem? (i := 1) (by exact rfl))) (fun _ h9 => h9) rfl dX10_does_12 ?_
    refine lv_iload_n hx hb dX10_does_15 rfl (lv_at hl 1 rfl) ?_
    refine va_iald hx hb hK hP 16 15 rfl rfl (by assumption) dX10_does_16 ?_
    refine lv_topi (fun z_6 ez_6 => ?_)
    have ez_6 : z_6 = (a 26) kk.toNatClampNeg := ez_6
    by_cases c_7 : z_6 = 0
    · refine lv_tableIn (tgt := 60) hx hb dX10_does_17 (by rw [c_7]; decide) (by rw [c_7]; decide) (by rw [c_7]; rfl) (by decide) ?_
      refine lv_aload_n hx hb dX10_does_60 rfl (lv_at hl 0 rfl) ?_
      refine lv_iload_n hx hb dX10_does_61 rfl (lv_at hl 2 rfl) ?_
      refine lv_aload_n hx hb dX10_does_62 rfl (lv_at hl 0 rfl) ?_
      refine va_get (D := (dC, dI)) (ci := 10) (v := .ref (b 27)) (C := RX10) (T := TX10) (N := 51) hx hb hts inw_X10_does_10 hown hK hP 0 rfl rfl 27 (by decide) (hts (.fieldLink RX10 63 "VatHouseModel" "one" "[I") (List.mem_of_getElem? (i := 2) (by exact rfl))) (fun _ h9 => h9) rfl dX10_does_63 ?_
      refine lv_iload_n hx hb dX10_does_66 rfl (lv_at hl 1 rfl) ?_
      refine va_iald hx hb hK hP 17 16 rfl rfl (by assumption) dX10_does_67 ?_
      refine lv_topi (fun z_8 ez_8 => ?_)
      have ez_8 : z_8 = (a 27) kk.toNatClampNeg := ez_8
      refine lv_aload_n hx hb dX10_does_68 rfl (lv_at hl 0 rfl) ?_
      refine va_get (D := (dC, dI)) (ci := 10) (v := .ref (b 28)) (C := RX10) (T := TX10) (N := 51) hx hb hts inw_X10_does_10 hown hK hP 0 rfl rfl 28 (by decide) (hts (.fieldLink RX10 66 "VatHouseModel" "two" "[I") (List.mem_of_getElem? (i := 3) (by exact rfl))) (fun _ h9 => h9) rfl dX10_does_69 ?_
      refine lv_iload_n hx hb dX10_does_72 rfl (lv_at hl 1 rfl) ?_
      refine va_iald hx hb hK hP 18 17 rfl rfl (by assumption) dX10_does_73 ?_
      refine lv_topi (fun z_9 ez_9 => ?_)
      have ez_9 : z_9 = (a 28) kk.toNatClampNeg := ez_9
      refine M_V ⟨hx, hb, hml, hown, hts⟩ (m_X10_dippedE l dC dI sa g h0 b (va_up i 40 x40_1) a ck z_8 z_9 _ hc30 (ND.one hND hVq hkq ez_8 ez_6 (Or.inl c_7)) hwt) (cwV 3 hts gX10_does_X10_dipped rfl rfl rfl (by decide +kernel) ⟨(by first | exact Nat.le_of_ble_eq_true rfl | (simp only [rm_X10_dippedE, rm_X10_doesE]; omega)), (by first | exact Nat.le_of_ble_eq_true rfl | (simp only [rm_X10_dippedE, rm_X10_doesE]; omega))⟩) hP hD hK hS hA hev rfl rfl rfl rfl hl.1 rfl (Nat.le_of_ble_eq_true rfl) dX10_does_74 ⟨(by first | exact Nat.le_of_ble_eq_true rfl | (simp only [rm_X10_doesE]; omega)), (by first | exact Nat.le_of_ble_eq_true rfl | (simp only [rm_X10_doesE]; omega))⟩ (fun r u H locs hw hP hD hS => ?_)
      obtain ⟨x41_10, x42_11, y4_12, y5_13, y6_14, y7_15, y8_16, y9_17, y10_18, y14_19, y17_20, y18_21⟩ := u
      have hw : (∃ z : Int32, r = some (.int z) ∧ (z = (dpA ((va_up i 40 x40_1), a) ck.toNatClampNeg z_8.toNatClampNeg z_9).1)) ∧ (x41_10 = (dpA ((va_up i 40 x40_1), a) ck.toNatClampNeg z_8.toNatClampNeg z_9).2.1 41 ∧ x42_11 = (dpA ((va_up i 40 x40_1), a) ck.toNatClampNeg z_8.toNatClampNeg z_9).2.1 42 ∧ y4_12 = (dpA ((va_up i 40 x40_1), a) ck.toNatClampNeg z_8.toNatClampNeg z_9).2.2 4 ∧ y5_13 = (dpA ((va_up i 40 x40_1), a) ck.toNatClampNeg z_8.toNatClampNeg z_9).2.2 5 ∧ y6_14 = (dpA ((va_up i 40 x40_1), a) ck.toNatClampNeg z_8.toNatClampNeg z_9).2.2 6 ∧ y7_15 = (dpA ((va_up i 40 x40_1), a) ck.toNatClampNeg z_8.toNatClampNeg z_9).2.2 7 ∧ y8_16 = (dpA ((va_up i 40 x40_1), a) ck.toNatClampNeg z_8.toNatClampNeg z_9).2.2 8 ∧ y9_17 = (dpA ((va_up i 40 x40_1), a) ck.toNatClampNeg z_8.toNatClampNeg z_9).2.2 9 ∧ y10_18 = (dpA ((va_up i 40 x40_1), a) ck.toNatClampNeg z_8.toNatClampNeg z_9).2.2 10 ∧ y14_19 = (dpA ((va_up i 40 x40_1), a) ck.toNatClampNeg z_8.toNatClampNeg z_9).2.2 14 ∧ y17_20 = (dpA ((va_up i 40 x40_1), a) ck.toNatClampNeg z_8.toNatClampNeg z_9).2.2 17 ∧ y18_21 = (dpA ((va_up i 40 x40_1), a) ck.toNatClampNeg z_8.toNatClampNeg z_9).2.2 18) := hw
      obtain ⟨⟨z_23, rfl, hz_z_23⟩, hw_22⟩ := hw
      have hP : va_P (dC, dI) vwCl (mw g h0 b (va_up (va_up (va_up i 40 x40_1) 41 x41_10) 42 x42_11) (va_up (va_up (va_up (va_up (va_up (va_up (va_up (va_up (va_up (va_up a 4 y4_12) 5 y5_13) 6 y6_14) 7 y7_15) 8 y8_16) 9 y9_17) 10 y10_18) 14 y14_19) 17 y17_20) 18 y18_21)) _ := hP
      have hD : va_D _ (mw g h0 b (va_up (va_up (va_up i 40 x40_1) 41 x41_10) 42 x42_11) (va_up (va_up (va_up (va_up (va_up (va_up (va_up (va_up (va_up (va_up a 4 y4_12) 5 y5_13) 6 y6_14) 7 y7_15) 8 y8_16) 9 y9_17) 10 y10_18) 14 y14_19) 17 y17_20) 18 y18_21)) := hD
      refine W.eq (g2 := F0 m 77 ls [.int z_23]) rfl ?_
      have hDq : dpA ((va_up i 40 x40_1), a) ck.toNatClampNeg z_8.toNatClampNeg z_9 = plA (coA (i, a)) kk.toNatClampNeg ck.toNatClampNeg := by rw [plA_0 (s := coA (i, a)) (ez_6.symm.trans c_7), ez_8, ez_9, hz2_3.2]; rfl
      have hO := dpA_o (s := ((va_up i 40 x40_1), a)) (c := ck.toNatClampNeg) (v := z_8.toNatClampNeg) (n := z_9)
      rw [hDq] at hz_z_23 hw_22 hO
      obtain ⟨hp41, hp42, hp4, hp5, hp6, hp7, hp8, hp9, hp10, hp14, hp17, hp18⟩ := hw_22
      exact M_i hx hb hr hlocks ((i 1), (i 2), x40_1, x41_10, x42_11, (i 43), y4_12, y5_13, y6_14, y7_15, y8_16, y9_17, y10_18, (a 11), y14_19, (a 15), y17_20, y18_21) hP hD hK hS ⟨⟨_, rfl, ⟨(fun _ => by omega), EvR.ou (Prod.ext hz_z_23.symm (show (plA (coA (i, a)) kk.toNatClampNeg ck.toNatClampNeg).2 = (rbI i (i 1) (i 2) x40_1 x41_10 x42_11 (i 43), rbA a y4_12 y5_13 y6_14 y7_15 y8_16 y9_17 y10_18 (a 11) y14_19 (a 15) y17_20 y18_21) from rb_of (s := (i, a)) (s' := (plA (coA (i, a)) kk.toNatClampNeg ck.toNatClampNeg).2) (FK.co.tr FK.pl) (hO.1.symm) (hO.2.1.symm) (hO.2.2.1.symm) hp41 hp42 (hO.2.2.2.1.symm) hp4 hp5 hp6 hp7 hp8 hp9 hp10 (hO.2.2.2.2.1.symm) hp14 (hO.2.2.2.2.2.symm) hp17 hp18)) (EvR.plain hz2_3.1 (pl_k7 (ez_6.symm.trans c_7) (by decide)))⟩⟩, ⟨by omega, by omega, (by rw [hp10, ← hDq]; exact dpA_01 h01)⟩⟩ (by first | exact Nat.le_of_ble_eq_true rfl | (simp only [rm_X10_doesE]; omega)) (by first | exact Nat.le_of_ble_eq_true rfl | (simp only [rm_X10_doesE]; omega)) dX10_does_77
    by_cases c_24 : z_6 = 1
    · refine lv_tableIn (tgt := 78) hx hb dX10_does_17 (by rw [c_24]; decide) (by rw [c_24]; decide) (by rw [c_24]; rfl) (by decide) ?_
      refine lv_aload_n hx hb dX10_does_78 rfl (lv_at hl 0 rfl) ?_
      refine va_get (D := (dC, dI)) (ci := 10) (v := .ref (b 14)) (C := RX10) (T := TX10) (N := 51) hx hb hts inw_X10_does_10 hown hK hP 0 rfl rfl 14 (by decide) (hts (.fieldLink RX10 38 "VatHouseModel" "loose" "[I") (List.mem_of_getElem? (i := 4) (by exact rfl))) (fun _ h9 => h9) rfl dX10_does_79 ?_
      refine lv_iload_n hx hb dX10_does_82 rfl (lv_at hl 2 rfl) ?_
      refine va_iald hx hb hK hP 10 9 rfl rfl (by assumption) dX10_does_83 ?_
      refine lv_topi (fun z_25 ez_25 => ?_)
      have ez_25 : z_25 = (a 14) ck.toNatClampNeg := ez_25
      refine lv_if_ne (tgt := 89) hx hb dX10_does_84 (by decide) (fun c_26 => ?_) (fun c_26 => ?_)
      · have nc_26 := ne_i c_26
        have lc_26 : (0 : Int32).toInt = 0 := by decide
        refine lv_aload_n hx hb dX10_does_89 rfl (lv_at hl 0 rfl) ?_
        refine lv_iload_n hx hb dX10_does_90 rfl (lv_at hl 2 rfl) ?_
        refine M_V ⟨hx, hb, hml, hown, hts⟩ (m_X10_airsE l dC dI sa g h0 b (va_up i 40 x40_1) a ck _ hc30) (cwV 1 hts gX10_does_X10_airs rfl rfl rfl (by decide +kernel) ⟨(by first | exact Nat.le_of_ble_eq_true rfl | (simp only [rm_X10_airsE, rm_X10_doesE]; omega)), (by first | exact Nat.le_of_ble_eq_true rfl | (simp only [rm_X10_airsE, rm_X10_doesE]; omega))⟩) hP hD hK hS hA hev rfl rfl rfl rfl hl.1 rfl (Nat.le_of_ble_eq_true rfl) dX10_does_91 ⟨(by first | exact Nat.le_of_ble_eq_true rfl | (simp only [rm_X10_doesE]; omega)), (by first | exact Nat.le_of_ble_eq_true rfl | (simp only [rm_X10_doesE]; omega))⟩ (fun r u H locs hw hP hD hS => ?_)
        obtain ⟨x2_27, y14_28, y15_29⟩ := u
        have hw : (∃ z : Int32, r = some (.int z) ∧ (z = ((a 14) ck.toNatClampNeg) / 8)) ∧ (x2_27 = (i 2) + ((a 14) ck.toNatClampNeg) / 8 ∧ y14_28 = upd (a 14) ck.toNatClampNeg (0) ∧ y15_29 = upd (a 15) ck.toNatClampNeg (((a 15) ck.toNatClampNeg) + (((a 14) ck.toNatClampNeg) - ((a 14) ck.toNatClampNeg) / 8))) := hw
        obtain ⟨⟨z_31, rfl, hz_z_31⟩, hw_30⟩ := hw
        have hP : va_P (dC, dI) vwCl (mw g h0 b (va_up (va_up i 2 x2_27) 40 x40_1) (va_up (va_up a 14 y14_28) 15 y15_29)) _ := hP
        have hD : va_D _ (mw g h0 b (va_up (va_up i 2 x2_27) 40 x40_1) (va_up (va_up a 14 y14_28) 15 y15_29)) := hD
        refine W.eq (g2 := F0 m 94 ls [.int z_31]) rfl ?_
        obtain ⟨hp2, hp14, hp15⟩ := hw_30
        refine lv_pop hx hb dX10_does_94 rfl ?_
        refine lv_iconst (v := 0) hx hb dX10_does_95 (by decide) ?_
        exact M_i hx hb hr hlocks ((i 1), x2_27, x40_1, (i 41), (i 42), (i 43), (a 4), (a 5), (a 6), (a 7), (a 8), (a 9), (a 10), (a 11), y14_28, y15_29, (a 17), (a 18)) hP hD hK hS ⟨⟨_, rfl, ⟨(fun _ => by omega), EvR.ou ((plA_1 (s := coA (i, a)) (ez_6.symm.trans c_24)).trans ((if_neg (fun h6 => c_26 (ez_25.trans h6))).trans (Prod.ext rfl (show aiA (coA (i, a)) ck.toNatClampNeg = (rbI i (i 1) x2_27 x40_1 (i 41) (i 42) (i 43), rbA a (a 4) (a 5) (a 6) (a 7) (a 8) (a 9) (a 10) (a 11) y14_28 y15_29 (a 17) (a 18)) from rb_of (s := (i, a)) (s' := aiA (coA (i, a)) ck.toNatClampNeg) (FK.co.tr FK.ai) rfl hp2 hz2_3.2 rfl rfl rfl rfl rfl rfl rfl rfl rfl rfl rfl hp14 hp15 rfl rfl)))) (EvR.plain hz2_3.1 (pl_k7 (ez_6.symm.trans c_24) (by decide)))⟩⟩, ⟨by omega, by omega, h01⟩⟩ (by first | exact Nat.le_of_ble_eq_true rfl | (simp only [rm_X10_doesE]; omega)) (by first | exact Nat.le_of_ble_eq_true rfl | (simp only [rm_X10_doesE]; omega)) dX10_does_96
      · have nc_26 := eq_i c_26
        have lc_26 : (0 : Int32).toInt = 0 := by decide
        refine lv_iconst (v := 3) hx hb dX10_does_87 (by decide) ?_
        exact M_i hx hb hr hlocks ((i 1), (i 2), x40_1, (i 41), (i 42), (i 43), (a 4), (a 5), (a 6), (a 7), (a 8), (a 9), (a 10), (a 11), (a 14), (a 15), (a 17), (a 18)) hP hD hK hS ⟨⟨_, rfl, ⟨(fun _ => by omega), EvR.ou ((plA_1 (s := coA (i, a)) (ez_6.symm.trans c_24)).trans ((if_pos (ez_25.symm.trans c_26)).trans (Prod.ext rfl (show coA (i, a) = (rbI i (i 1) (i 2) x40_1 (i 41) (i 42) (i 43), rbA a (a 4) (a 5) (a 6) (a 7) (a 8) (a 9) (a 10) (a 11) (a 14) (a 15) (a 17) (a 18)) from rb_of (s := (i, a)) (s' := coA (i, a)) (FK.co) rfl rfl hz2_3.2 rfl rfl rfl rfl rfl rfl rfl rfl rfl rfl rfl rfl rfl rfl rfl)))) (EvR.plain hz2_3.1 (pl_k7 (ez_6.symm.trans c_24) (by decide)))⟩⟩, ⟨by omega, by omega, h01⟩⟩ (by first | exact Nat.le_of_ble_eq_true rfl | (simp only [rm_X10_doesE]; omega)) (by first | exact Nat.le_of_ble_eq_true rfl | (simp only [rm_X10_doesE]; omega)) dX10_does_88
    by_cases c_32 : z_6 = 2
    · refine lv_tableIn (tgt := 97) hx hb dX10_does_17 (by rw [c_32]; decide) (by rw [c_32]; decide) (by rw [c_32]; rfl) (by decide) ?_
      refine lv_aload_n hx hb dX10_does_97 rfl (lv_at hl 0 rfl) ?_
      refine lv_iload_n hx hb dX10_does_98 rfl (lv_at hl 2 rfl) ?_
      refine M_V ⟨hx, hb, hml, hown, hts⟩ (m_X10_washesE l dC dI sa g h0 b (va_up i 40 x40_1) a ck _ hc30) (cwV 1 hts gX10_does_X10_washes rfl rfl rfl (by decide +kernel) ⟨(by first | exact Nat.le_of_ble_eq_true rfl | (simp only [rm_X10_washesE, rm_X10_doesE]; omega)), (by first | exact Nat.le_of_ble_eq_true rfl | (simp only [rm_X10_washesE, rm_X10_doesE]; omega))⟩) hP hD hK hS hA hev rfl rfl rfl rfl hl.1 rfl (Nat.le_of_ble_eq_true rfl) dX10_does_99 ⟨(by first | exact Nat.le_of_ble_eq_true rfl | (simp only [rm_X10_doesE]; omega)), (by first | exact Nat.le_of_ble_eq_true rfl | (simp only [rm_X10_doesE]; omega))⟩ (fun r u H locs hw hP hD hS => ?_)
      obtain ⟨x2_33, y14_34, y15_35⟩ := u
      have hw : (∃ z : Int32, r = some (.int z) ∧ (z = ((a 14) ck.toNatClampNeg) + ((a 15) ck.toNatClampNeg) / 20)) ∧ (x2_33 = (i 2) + (((a 14) ck.toNatClampNeg) + ((a 15) ck.toNatClampNeg) / 20) ∧ y14_34 = upd (a 14) ck.toNatClampNeg (0) ∧ y15_35 = upd (a 15) ck.toNatClampNeg (((a 15) ck.toNatClampNeg) - ((a 15) ck.toNatClampNeg) / 20)) := hw
      obtain ⟨⟨z_37, rfl, hz_z_37⟩, hw_36⟩ := hw
      have hP : va_P (dC, dI) vwCl (mw g h0 b (va_up (va_up i 2 x2_33) 40 x40_1) (va_up (va_up a 14 y14_34) 15 y15_35)) _ := hP
      have hD : va_D _ (mw g h0 b (va_up (va_up i 2 x2_33) 40 x40_1) (va_up (va_up a 14 y14_34) 15 y15_35)) := hD
      refine W.eq (g2 := F0 m 102 ls [.int z_37]) rfl ?_
      obtain ⟨hp2, hp14, hp15⟩ := hw_36
      refine lv_pop hx hb dX10_does_102 rfl ?_
      refine lv_iconst (v := 0) hx hb dX10_does_103 (by decide) ?_
      exact M_i hx hb hr hlocks ((i 1), x2_33, x40_1, (i 41), (i 42), (i 43), (a 4), (a 5), (a 6), (a 7), (a 8), (a 9), (a 10), (a 11), y14_34, y15_35, (a 17), (a 18)) hP hD hK hS ⟨⟨_, rfl, ⟨(fun _ => by omega), EvR.ou ((plA_2 (s := coA (i, a)) (ez_6.symm.trans c_32)).trans ((rfl).trans (Prod.ext rfl (show waA (coA (i, a)) ck.toNatClampNeg = (rbI i (i 1) x2_33 x40_1 (i 41) (i 42) (i 43), rbA a (a 4) (a 5) (a 6) (a 7) (a 8) (a 9) (a 10) (a 11) y14_34 y15_35 (a 17) (a 18)) from rb_of (s := (i, a)) (s' := waA (coA (i, a)) ck.toNatClampNeg) (FK.co.tr FK.wa) rfl hp2 hz2_3.2 rfl rfl rfl rfl rfl rfl rfl rfl rfl rfl rfl hp14 hp15 rfl rfl)))) (EvR.plain hz2_3.1 (pl_k7 (ez_6.symm.trans c_32) (by decide)))⟩⟩, ⟨by omega, by omega, h01⟩⟩ (by first | exact Nat.le_of_ble_eq_true rfl | (simp only [rm_X10_doesE]; omega)) (by first | exact Nat.le_of_ble_eq_true rfl | (simp only [rm_X10_doesE]; omega)) dX10_does_104
    by_cases c_38 : z_6 = 3
    · refine lv_tableIn (tgt := 105) hx hb dX10_does_17 (by rw [c_38]; decide) (by rw [c_38]; decide) (by rw [c_38]; rfl) (by decide) ?_
      refine lv_aload_n hx hb dX10_does_105 rfl (lv_at hl 0 rfl) ?_
      refine lv_aload_n hx hb dX10_does_106 rfl (lv_at hl 0 rfl) ?_
      refine va_get (D := (dC, dI)) (ci := 10) (v := .ref (b 27)) (C := RX10) (T := TX10) (N := 51) hx hb hts inw_X10_does_10 hown hK hP 0 rfl rfl 27 (by decide) (hts (.fieldLink RX10 63 "VatHouseModel" "one" "[I") (List.mem_of_getElem? (i := 2) (by exact rfl))) (fun _ h9 => h9) rfl dX10_does_107 ?_
      refine lv_iload_n hx hb dX10_does_110 rfl (lv_at hl 1 rfl) ?_
      refine va_iald hx hb hK hP 17 16 rfl rfl (by assumption) dX10_does_111 ?_
      refine lv_topi (fun z_39 ez_39 => ?_)
      have ez_39 : z_39 = (a 27) kk.toNatClampNeg := ez_39
      refine M_V ⟨hx, hb, hml, hown, hts⟩ (m_X10_restedE l dC dI sa g h0 b (va_up i 40 x40_1) a z_39 _ (show x40_1.toInt ≤ (i 39).toInt by omega) h01) (cwV 1 hts gX10_does_X10_rested rfl rfl rfl (by decide +kernel) ⟨(by first | exact Nat.le_of_ble_eq_true rfl | (simp only [rm_X10_restedE, rm_X10_doesE]; omega)), (by first | exact Nat.le_of_ble_eq_true rfl | (simp only [rm_X10_restedE, rm_X10_doesE]; omega))⟩) hP hD hK hS hA hev rfl rfl rfl rfl hl.1 rfl (Nat.le_of_ble_eq_true rfl) dX10_does_112 ⟨(by first | exact Nat.le_of_ble_eq_true rfl | (simp only [rm_X10_doesE]; omega)), (by first | exact Nat.le_of_ble_eq_true rfl | (simp only [rm_X10_doesE]; omega))⟩ (fun r u H locs hw hP hD hS => ?_)
      obtain ⟨x1_40, x40_41, x43_42, y5_43, y6_44, y7_45, y10_46, y11_47⟩ := u
      have hw : (∃ z : Int32, r = some (.int z) ∧ (z = (reA z_39.toNatClampNeg ((va_up i 40 x40_1), a)).1)) ∧ (x40_1.toInt ≤ x40_41.toInt ∧ x40_41.toInt ≤ ((va_up i 40 x40_1) 39).toInt ∧ H01 y10_46 ∧ x1_40 = (reA z_39.toNatClampNeg ((va_up i 40 x40_1), a)).2.1 1 ∧ x40_41 = (reA z_39.toNatClampNeg ((va_up i 40 x40_1), a)).2.1 40 ∧ x43_42 = (reA z_39.toNatClampNeg ((va_up i 40 x40_1), a)).2.1 43 ∧ y5_43 = (reA z_39.toNatClampNeg ((va_up i 40 x40_1), a)).2.2 5 ∧ y6_44 = (reA z_39.toNatClampNeg ((va_up i 40 x40_1), a)).2.2 6 ∧ y7_45 = (reA z_39.toNatClampNeg ((va_up i 40 x40_1), a)).2.2 7 ∧ y10_46 = (reA z_39.toNatClampNeg ((va_up i 40 x40_1), a)).2.2 10 ∧ y11_47 = (reA z_39.toNatClampNeg ((va_up i 40 x40_1), a)).2.2 11) := hw
      obtain ⟨⟨z_49, rfl, hz_z_49⟩, hw_48⟩ := hw
      have hP : va_P (dC, dI) vwCl (mw g h0 b (va_up (va_up (va_up i 1 x1_40) 40 x40_41) 43 x43_42) (va_up (va_up (va_up (va_up (va_up a 5 y5_43) 6 y6_44) 7 y7_45) 10 y10_46) 11 y11_47)) _ := hP
      have hD : va_D _ (mw g h0 b (va_up (va_up (va_up i 1 x1_40) 40 x40_41) 43 x43_42) (va_up (va_up (va_up (va_up (va_up a 5 y5_43) 6 y6_44) 7 y7_45) 10 y10_46) 11 y11_47)) := hD
      refine W.eq (g2 := F0 m 115 ls [.int z_49]) rfl ?_
      obtain ⟨hra, hrb, hrc, hrp⟩ := hw_48
      have hra : x40_1.toInt ≤ x40_41.toInt := hra
      have hrb : x40_41.toInt ≤ (i 39).toInt := hrb
      have hDq : reA z_39.toNatClampNeg ((va_up i 40 x40_1), a) = plA (coA (i, a)) kk.toNatClampNeg ck.toNatClampNeg := by rw [plA_3 (s := coA (i, a)) (ez_6.symm.trans c_38), ez_39, hz2_3.2]; rfl
      have hO := reA_o z_39.toNatClampNeg ((va_up i 40 x40_1), a)
      rw [hDq] at hz_z_49 hrp hO
      obtain ⟨hp1, hp40, hp43, hp5, hp6, hp7, hp10, hp11⟩ := hrp
      exact M_i hx hb hr hlocks (x1_40, (i 2), x40_41, (i 41), (i 42), x43_42, (a 4), y5_43, y6_44, y7_45, (a 8), (a 9), y10_46, y11_47, (a 14), (a 15), (a 17), (a 18)) hP hD hK hS ⟨⟨_, rfl, ⟨(fun _ => by omega), EvR.ou (Prod.ext hz_z_49.symm (show (plA (coA (i, a)) kk.toNatClampNeg ck.toNatClampNeg).2 = (rbI i x1_40 (i 2) x40_41 (i 41) (i 42) x43_42, rbA a (a 4) y5_43 y6_44 y7_45 (a 8) (a 9) y10_46 y11_47 (a 14) (a 15) (a 17) (a 18)) from rb_of (s := (i, a)) (s' := (plA (coA (i, a)) kk.toNatClampNeg ck.toNatClampNeg).2) (FK.co.tr FK.pl) hp1 (hO.1.symm) hp40 (hO.2.1.symm) (hO.2.2.1.symm) hp43 (hO.2.2.2.1.symm) hp5 hp6 hp7 (hO.2.2.2.2.1.symm) (hO.2.2.2.2.2.1.symm) hp10 hp11 (hO.2.2.2.2.2.2.1.symm) (hO.2.2.2.2.2.2.2.1.symm) (hO.2.2.2.2.2.2.2.2.1.symm) (hO.2.2.2.2.2.2.2.2.2.symm))) (EvR.plain hz2_3.1 (pl_k7 (ez_6.symm.trans c_38) (by decide)))⟩⟩, ⟨by omega, by omega, hrc⟩⟩ (by first | exact Nat.le_of_ble_eq_true rfl | (simp only [rm_X10_doesE]; omega)) (by first | exact Nat.le_of_ble_eq_true rfl | (simp only [rm_X10_doesE]; omega)) dX10_does_115
    by_cases c_50 : z_6 = 4
    · refine lv_tableIn (tgt := 116) hx hb dX10_does_17 (by rw [c_50]; decide) (by rw [c_50]; decide) (by rw [c_50]; rfl) (by decide) ?_
      refine lv_aload_n hx hb dX10_does_116 rfl (lv_at hl 0 rfl) ?_
      refine lv_aload_n hx hb dX10_does_117 rfl (lv_at hl 0 rfl) ?_
      refine va_get (D := (dC, dI)) (ci := 10) (v := .ref (b 27)) (C := RX10) (T := TX10) (N := 51) hx hb hts inw_X10_does_10 hown hK hP 0 rfl rfl 27 (by decide) (hts (.fieldLink RX10 63 "VatHouseModel" "one" "[I") (List.mem_of_getElem? (i := 2) (by exact rfl))) (fun _ h9 => h9) rfl dX10_does_118 ?_
      refine lv_iload_n hx hb dX10_does_121 rfl (lv_at hl 1 rfl) ?_
      refine va_iald hx hb hK hP 17 16 rfl rfl (by assumption) dX10_does_122 ?_
      refine lv_topi (fun z_51 ez_51 => ?_)
      have ez_51 : z_51 = (a 27) kk.toNatClampNeg := ez_51
      refine lv_aload_n hx hb dX10_does_123 rfl (lv_at hl 0 rfl) ?_
      refine va_get (D := (dC, dI)) (ci := 10) (v := .ref (b 28)) (C := RX10) (T := TX10) (N := 51) hx hb hts inw_X10_does_10 hown hK hP 0 rfl rfl 28 (by decide) (hts (.fieldLink RX10 66 "VatHouseModel" "two" "[I") (List.mem_of_getElem? (i := 3) (by exact rfl))) (fun _ h9 => h9) rfl dX10_does_124 ?_
      refine lv_iload_n hx hb dX10_does_127 rfl (lv_at hl 1 rfl) ?_
      refine va_iald hx hb hK hP 18 17 rfl rfl (by assumption) dX10_does_128 ?_
      refine lv_topi (fun z_52 ez_52 => ?_)
      have ez_52 : z_52 = (a 28) kk.toNatClampNeg := ez_52
      refine M_V ⟨hx, hb, hml, hown, hts⟩ (m_X10_feedsE l dC dI sa g h0 b (va_up i 40 x40_1) a z_51 z_52 _ (ND.one hND hVq hkq ez_51 ez_6 (Or.inr (Or.inl c_50)))) (cwV 2 hts gX10_does_X10_feeds rfl rfl rfl (by decide +kernel) ⟨(by first | exact Nat.le_of_ble_eq_true rfl | (simp only [rm_X10_feedsE, rm_X10_doesE]; omega)), (by first | exact Nat.le_of_ble_eq_true rfl | (simp only [rm_X10_feedsE, rm_X10_doesE]; omega))⟩) hP hD hK hS hA hev rfl rfl rfl rfl hl.1 rfl (Nat.le_of_ble_eq_true rfl) dX10_does_129 ⟨(by first | exact Nat.le_of_ble_eq_true rfl | (simp only [rm_X10_doesE]; omega)), (by first | exact Nat.le_of_ble_eq_true rfl | (simp only [rm_X10_doesE]; omega))⟩ (fun r u H locs hw hP hD hS => ?_)
      obtain ⟨y5_53, y7_54⟩ := u
      have hw : ((r = some (.int 0) ∧ (¬ 1000 < ((a 5) z_51.toNatClampNeg) + z_52)) ∨ (r = some (.int 1) ∧ (1000 < ((a 5) z_51.toNatClampNeg) + z_52))) ∧ (y5_53 = upd (a 5) z_51.toNatClampNeg (tfF ((a 5) z_51.toNatClampNeg) z_52) ∧ y7_54 = upd (a 7) z_51.toNatClampNeg (tfS ((a 5) z_51.toNatClampNeg) ((a 7) z_51.toNatClampNeg) z_52)) := hw
      obtain ⟨⟨rfl, hz2_56⟩ | ⟨rfl, hz2_56⟩, hw_55⟩ := hw
      · have hP : va_P (dC, dI) vwCl (mw g h0 b (va_up i 40 x40_1) (va_up (va_up a 5 y5_53) 7 y7_54)) _ := hP
        have hD : va_D _ (mw g h0 b (va_up i 40 x40_1) (va_up (va_up a 5 y5_53) 7 y7_54)) := hD
        refine W.eq (g2 := F0 m 132 ls [.int 0]) rfl ?_
        obtain ⟨hp5, hp7⟩ := hw_55
        refine lv_if_eq (tgt := 139) hx hb dX10_does_132 (by decide) (fun _ => ?_) (fun c_57 => absurd c_57 (by decide))
        refine lv_iconst (v := 0) hx hb dX10_does_139 (by decide) ?_
        exact M_i hx hb hr hlocks ((i 1), (i 2), x40_1, (i 41), (i 42), (i 43), (a 4), y5_53, (a 6), y7_54, (a 8), (a 9), (a 10), (a 11), (a 14), (a 15), (a 17), (a 18)) hP hD hK hS ⟨⟨_, rfl, ⟨(fun _ => by omega), EvR.ou ((plA_4 (s := coA (i, a)) (ez_6.symm.trans c_50)).trans ((rfl).trans (Prod.ext (if_neg (by have h6 := hz2_56; rw [ez_51, ez_52] at h6; exact h6)) (show feA (coA (i, a)) (a 27 kk.toNatClampNeg).toNatClampNeg (a 28 kk.toNatClampNeg) = (rbI i (i 1) (i 2) x40_1 (i 41) (i 42) (i 43), rbA a (a 4) y5_53 (a 6) y7_54 (a 8) (a 9) (a 10) (a 11) (a 14) (a 15) (a 17) (a 18)) from rb_of (s := (i, a)) (s' := feA (coA (i, a)) (a 27 kk.toNatClampNeg).toNatClampNeg (a 28 kk.toNatClampNeg)) (FK.co.tr FK.fe) rfl rfl hz2_3.2 rfl rfl rfl rfl (by rw [hp5, ez_51, ez_52]; rfl) rfl (by rw [hp7, ez_51, ez_52]; rfl) rfl rfl rfl rfl rfl rfl rfl rfl)))) (EvR.plain hz2_3.1 (pl_k7 (ez_6.symm.trans c_50) (by decide)))⟩⟩, ⟨by omega, by omega, h01⟩⟩ (by first | exact Nat.le_of_ble_eq_true rfl | (simp only [rm_X10_doesE]; omega)) (by first | exact Nat.le_of_ble_eq_true rfl | (simp only [rm_X10_doesE]; omega)) dX10_does_140
      · have hP : va_P (dC, dI) vwCl (mw g h0 b (va_up i 40 x40_1) (va_up (va_up a 5 y5_53) 7 y7_54)) _ := hP
        have hD : va_D _ (mw g h0 b (va_up i 40 x40_1) (va_up (va_up a 5 y5_53) 7 y7_54)) := hD
        refine W.eq (g2 := F0 m 132 ls [.int 1]) rfl ?_
        obtain ⟨hp5, hp7⟩ := hw_55
        refine lv_if_eq (tgt := 139) hx hb dX10_does_132 (by decide) (fun c_58 => absurd c_58 (by decide)) (fun _ => ?_)
        refine lv_iconst (v := 5) hx hb dX10_does_135 (by decide) ?_
        refine lv_goto (tgt := 140) hx hb dX10_does_136 (by decide) ?_
        exact M_i hx hb hr hlocks ((i 1), (i 2), x40_1, (i 41), (i 42), (i 43), (a 4), y5_53, (a 6), y7_54, (a 8), (a 9), (a 10), (a 11), (a 14), (a 15), (a 17), (a 18)) hP hD hK hS ⟨⟨_, rfl, ⟨(fun _ => by omega), EvR.ou ((plA_4 (s := coA (i, a)) (ez_6.symm.trans c_50)).trans ((rfl).trans (Prod.ext (if_pos (by have h6 := hz2_56; rw [ez_51, ez_52] at h6; exact h6)) (show feA (coA (i, a)) (a 27 kk.toNatClampNeg).toNatClampNeg (a 28 kk.toNatClampNeg) = (rbI i (i 1) (i 2) x40_1 (i 41) (i 42) (i 43), rbA a (a 4) y5_53 (a 6) y7_54 (a 8) (a 9) (a 10) (a 11) (a 14) (a 15) (a 17) (a 18)) from rb_of (s := (i, a)) (s' := feA (coA (i, a)) (a 27 kk.toNatClampNeg).toNatClampNeg (a 28 kk.toNatClampNeg)) (FK.co.tr FK.fe) rfl rfl hz2_3.2 rfl rfl rfl rfl (by rw [hp5, ez_51, ez_52]; rfl) rfl (by rw [hp7, ez_51, ez_52]; rfl) rfl rfl rfl rfl rfl rfl rfl rfl)))) (EvR.plain hz2_3.1 (pl_k7 (ez_6.symm.trans c_50) (by decide)))⟩⟩, ⟨by omega, by omega, h01⟩⟩ (by first | exact Nat.le_of_ble_eq_true rfl | (simp only [rm_X10_doesE]; omega)) (by first | exact Nat.le_of_ble_eq_true rfl | (simp only [rm_X10_doesE]; omega)) dX10_does_140
    by_cases c_59 : z_6 = 5
    · refine lv_tableIn (tgt := 141) hx hb dX10_does_17 (by rw [c_59]; decide) (by rw [c_59]; decide) (by rw [c_59]; rfl) (by decide) ?_
      refine lv_aload_n hx hb dX10_does_141 rfl (lv_at hl 0 rfl) ?_
      refine va_get (D := (dC, dI)) (ci := 10) (v := .ref (b 7)) (C := RX10) (T := TX10) (N := 51) hx hb hts inw_X10_does_10 hown hK hP 0 rfl rfl 7 (by decide) (hts (.fieldLink RX10 19 "VatHouseModel" "state" "[I") (List.mem_of_getElem? (i := 5) (by exact rfl))) (fun _ h9 => h9) rfl dX10_does_142 ?_
      refine lv_aload_n hx hb dX10_does_145 rfl (lv_at hl 0 rfl) ?_
      refine va_get (D := (dC, dI)) (ci := 10) (v := .ref (b 27)) (C := RX10) (T := TX10) (N := 51) hx hb hts inw_X10_does_10 hown hK hP 0 rfl rfl 27 (by decide) (hts (.fieldLink RX10 63 "VatHouseModel" "one" "[I") (List.mem_of_getElem? (i := 2) (by exact rfl))) (fun _ h9 => h9) rfl dX10_does_146 ?_
      refine lv_iload_n hx hb dX10_does_149 rfl (lv_at hl 1 rfl) ?_
      refine va_iald hx hb hK hP 17 16 rfl rfl (by assumption) dX10_does_150 ?_
      refine lv_topi (fun z_60 ez_60 => ?_)
      have ez_60 : z_60 = (a 27) kk.toNatClampNeg := ez_60
      refine va_iald hx hb hK hP 4 3 rfl rfl (ND.one hND hVq hkq ez_60 ez_6 (Or.inr (Or.inr (Or.inl c_59)))) dX10_does_151 ?_
      refine lv_topi (fun z_61 ez_61 => ?_)
      have ez_61 : z_61 = (a 7) z_60.toNatClampNeg := ez_61
      refine lv_iconst (v := 2) hx hb dX10_does_152 (by decide) ?_
      refine lv_icmp_eq (tgt := 158) hx hb dX10_does_153 (by decide) (fun c_62 => ?_) (fun c_62 => ?_)
      · have nc_62 := eq_i c_62
        have lc_62 : (2 : Int32).toInt = 2 := by decide
        refine lv_aload_n hx hb dX10_does_158 rfl (lv_at hl 0 rfl) ?_
        refine lv_aload_n hx hb dX10_does_159 rfl (lv_at hl 0 rfl) ?_
        refine va_get (D := (dC, dI)) (ci := 10) (v := .ref (b 27)) (C := RX10) (T := TX10) (N := 51) hx hb hts inw_X10_does_10 hown hK hP 0 rfl rfl 27 (by decide) (hts (.fieldLink RX10 63 "VatHouseModel" "one" "[I") (List.mem_of_getElem? (i := 2) (by exact rfl))) (fun _ h9 => h9) rfl dX10_does_160 ?_
        refine lv_iload_n hx hb dX10_does_163 rfl (lv_at hl 1 rfl) ?_
        refine va_iald hx hb hK hP 17 16 rfl rfl (by assumption) dX10_does_164 ?_
        refine lv_topi (fun z_63 ez_63 => ?_)
        have ez_63 : z_63 = (a 27) kk.toNatClampNeg := ez_63
        refine M_V ⟨hx, hb, hml, hown, hts⟩ (m_X10_limesE l dC dI sa g h0 b (va_up i 40 x40_1) a z_63 _ (ND.one hND hVq hkq ez_63 ez_6 (Or.inr (Or.inr (Or.inl c_59))))) (cwV 1 hts gX10_does_X10_limes rfl rfl rfl (by decide +kernel) ⟨(by first | exact Nat.le_of_ble_eq_true rfl | (simp only [rm_X10_limesE, rm_X10_doesE]; omega)), (by first | exact Nat.le_of_ble_eq_true rfl | (simp only [rm_X10_limesE, rm_X10_doesE]; omega))⟩) hP hD hK hS hA hev rfl rfl rfl rfl hl.1 rfl (Nat.le_of_ble_eq_true rfl) dX10_does_165 ⟨(by first | exact Nat.le_of_ble_eq_true rfl | (simp only [rm_X10_doesE]; omega)), (by first | exact Nat.le_of_ble_eq_true rfl | (simp only [rm_X10_doesE]; omega))⟩ (fun r u H locs hw hP hD hS => ?_)
        obtain ⟨y5_64, y6_65, y7_66⟩ := u
        have hw : (r = none) ∧ (y5_64 = upd (a 5) z_63.toNatClampNeg (((a 5) z_63.toNatClampNeg) / 2) ∧ y6_65 = upd (a 6) z_63.toNatClampNeg (liM ((a 7) z_63.toNatClampNeg) ((a 6) z_63.toNatClampNeg)) ∧ y7_66 = upd (a 7) z_63.toNatClampNeg (liS ((a 7) z_63.toNatClampNeg) ((a 5) z_63.toNatClampNeg))) := hw
        obtain ⟨rfl, hw_67⟩ := hw
        have hP : va_P (dC, dI) vwCl (mw g h0 b (va_up i 40 x40_1) (va_up (va_up (va_up a 5 y5_64) 6 y6_65) 7 y7_66)) _ := hP
        have hD : va_D _ (mw g h0 b (va_up i 40 x40_1) (va_up (va_up (va_up a 5 y5_64) 6 y6_65) 7 y7_66)) := hD
        refine W.eq (g2 := F0 m 168 ls []) rfl ?_
        obtain ⟨hp5, hp6, hp7⟩ := hw_67
        refine lv_iconst (v := 0) hx hb dX10_does_168 (by decide) ?_
        exact M_i hx hb hr hlocks ((i 1), (i 2), x40_1, (i 41), (i 42), (i 43), (a 4), y5_64, y6_65, y7_66, (a 8), (a 9), (a 10), (a 11), (a 14), (a 15), (a 17), (a 18)) hP hD hK hS ⟨⟨_, rfl, ⟨(fun _ => by omega), EvR.ou ((plA_5 (s := coA (i, a)) (ez_6.symm.trans c_59)).trans ((if_pos (by have h6 := c_62; rw [ez_61, ez_60] at h6; exact h6)).trans (Prod.ext rfl (show lmA (coA (i, a)) (a 27 kk.toNatClampNeg).toNatClampNeg = (rbI i (i 1) (i 2) x40_1 (i 41) (i 42) (i 43), rbA a (a 4) y5_64 y6_65 y7_66 (a 8) (a 9) (a 10) (a 11) (a 14) (a 15) (a 17) (a 18)) from rb_of (s := (i, a)) (s' := lmA (coA (i, a)) (a 27 kk.toNatClampNeg).toNatClampNeg) (FK.co.tr FK.lm) rfl rfl hz2_3.2 rfl rfl rfl rfl (by rw [hp5, ez_63]; rfl) (by rw [hp6, ez_63]; rfl) (by rw [hp7, ez_63]; rfl) rfl rfl rfl rfl rfl rfl rfl rfl)))) (EvR.plain hz2_3.1 (pl_k7 (ez_6.symm.trans c_59) (by decide)))⟩⟩, ⟨by omega, by omega, h01⟩⟩ (by first | exact Nat.le_of_ble_eq_true rfl | (simp only [rm_X10_doesE]; omega)) (by first | exact Nat.le_of_ble_eq_true rfl | (simp only [rm_X10_doesE]; omega)) dX10_does_169
      · have nc_62 := ne_i c_62
        have lc_62 : (2 : Int32).toInt = 2 := by decide
        refine lv_iconst (v := 4) hx hb dX10_does_156 (by decide) ?_
        exact M_i hx hb hr hlocks ((i 1), (i 2), x40_1, (i 41), (i 42), (i 43), (a 4), (a 5), (a 6), (a 7), (a 8), (a 9), (a 10), (a 11), (a 14), (a 15), (a 17), (a 18)) hP hD hK hS ⟨⟨_, rfl, ⟨(fun _ => by omega), EvR.ou ((plA_5 (s := coA (i, a)) (ez_6.symm.trans c_59)).trans ((if_neg (by have h6 := c_62; rw [ez_61, ez_60] at h6; exact h6)).trans (Prod.ext rfl (show coA (i, a) = (rbI i (i 1) (i 2) x40_1 (i 41) (i 42) (i 43), rbA a (a 4) (a 5) (a 6) (a 7) (a 8) (a 9) (a 10) (a 11) (a 14) (a 15) (a 17) (a 18)) from rb_of (s := (i, a)) (s' := coA (i, a)) (FK.co) rfl rfl hz2_3.2 rfl rfl rfl rfl rfl rfl rfl rfl rfl rfl rfl rfl rfl rfl rfl)))) (EvR.plain hz2_3.1 (pl_k7 (ez_6.symm.trans c_59) (by decide)))⟩⟩, ⟨by omega, by omega, h01⟩⟩ (by first | exact Nat.le_of_ble_eq_true rfl | (simp only [rm_X10_doesE]; omega)) (by first | exact Nat.le_of_ble_eq_true rfl | (simp only [rm_X10_doesE]; omega)) dX10_does_157
    by_cases c_68 : z_6 = 6
    · refine lv_tableIn (tgt := 170) hx hb dX10_does_17 (by rw [c_68]; decide) (by rw [c_68]; decide) (by rw [c_68]; rfl) (by decide) ?_
      refine lv_bipush (v := 100) hx hb dX10_does_170 (by decide) ?_
      refine lv_aload_n hx hb dX10_does_172 rfl (lv_at hl 0 rfl) ?_
      refine va_get (D := (dC, dI)) (ci := 10) (v := .ref (b 27)) (C := RX10) (T := TX10) (N := 51) hx hb hts inw_X10_does_10 hown hK hP 0 rfl rfl 27 (by decide) (hts (.fieldLink RX10 63 "VatHouseModel" "one" "[I") (List.mem_of_getElem? (i := 2) (by exact rfl))) (fun _ h9 => h9) rfl dX10_does_173 ?_
      refine lv_iload_n hx hb dX10_does_176 rfl (lv_at hl 1 rfl) ?_
      refine va_iald hx hb hK hP 17 16 rfl rfl (by assumption) dX10_does_177 ?_
      refine lv_topi (fun z_69 ez_69 => ?_)
      have ez_69 : z_69 = (a 27) kk.toNatClampNeg := ez_69
      refine lv_iadd hx hb dX10_does_178 ?_
      refine lv_topi (fun z_70 ez_70 => ?_)
      exact M_i hx hb hr hlocks ((i 1), (i 2), x40_1, (i 41), (i 42), (i 43), (a 4), (a 5), (a 6), (a 7), (a 8), (a 9), (a 10), (a 11), (a 14), (a 15), (a 17), (a 18)) hP hD hK hS ⟨⟨_, rfl, ⟨(fun _ => by omega), EvR.ou ((plA_6 (s := coA (i, a)) (ez_6.symm.trans c_68)).trans ((rfl).trans (Prod.ext (by rw [ez_70, ez_69]; rfl) (show coA (i, a) = (rbI i (i 1) (i 2) x40_1 (i 41) (i 42) (i 43), rbA a (a 4) (a 5) (a 6) (a 7) (a 8) (a 9) (a 10) (a 11) (a 14) (a 15) (a 17) (a 18)) from rb_of (s := (i, a)) (s' := coA (i, a)) (FK.co) rfl rfl hz2_3.2 rfl rfl rfl rfl rfl rfl rfl rfl rfl rfl rfl rfl rfl rfl rfl)))) (EvR.plain hz2_3.1 (pl_k7 (ez_6.symm.trans c_68) (by decide)))⟩⟩, ⟨by omega, by omega, h01⟩⟩ (by first | exact Nat.le_of_ble_eq_true rfl | (simp only [rm_X10_doesE]; omega)) (by first | exact Nat.le_of_ble_eq_true rfl | (simp only [rm_X10_doesE]; omega)) dX10_does_179
    refine lv_tableOut (tgt := 180) hx hb dX10_does_17 (tab_out7 c_7 c_24 c_32 c_38 c_50 c_59 c_68) (by decide) ?_
    refine lv_aload_n hx hb dX10_does_180 rfl (lv_at hl 0 rfl) ?_
    refine lv_iload_n hx hb dX10_does_181 rfl (lv_at hl 1 rfl) ?_
    refine lv_iload_n hx hb dX10_does_182 rfl (lv_at hl 2 rfl) ?_
    refine M_V ⟨hx, hb, hml, hown, hts⟩ (m_X10_doesBlocksE l dC dI sa g h0 b V dp j dl (va_up i 40 x40_1) a kk ck _ hND hj (show ∃ q : Nat, kk = nI q ∧ V q ∧ dp q = dl from ⟨q, hq, hVq, hdq⟩) hc30 hwt (show x40_1.toInt ≤ (i 39).toInt by omega) h01 hk0 IHR) (cwV 2 hts gX10_does_X10_doesBlocks rfl rfl rfl (by decide +kernel) ⟨(by first | exact Nat.le_of_ble_eq_true rfl | (simp only [rm_X10_doesBlocksE, rm_X10_doesE]; omega)), (by first | exact Nat.le_of_ble_eq_true rfl | (simp only [rm_X10_doesBlocksE, rm_X10_doesE]; omega))⟩) hP hD hK hS hA hev rfl rfl rfl rfl hl.1 rfl (Nat.le_of_ble_eq_true rfl) dX10_does_183 ⟨(by first | exact Nat.le_of_ble_eq_true rfl | (simp only [rm_X10_doesE]; omega)), (by first | exact Nat.le_of_ble_eq_true rfl | (simp only [rm_X10_doesE]; omega))⟩ (fun r u H locs hw hP hD hS => ?_)
    obtain ⟨x1_71, x2_72, x40_73, x41_74, x42_75, x43_76, y4_77, y5_78, y6_79, y7_80, y8_81, y9_82, y10_83, y11_84, y14_85, y15_86, y17_87, y18_88⟩ := u
    have hw : (∃ z : Int32, r = some (.int z) ∧ (BR kk.toNatClampNeg ck.toNatClampNeg ((va_up i 40 x40_1), a) (z, (rbI (va_up i 40 x40_1) x1_71 x2_72 x40_73 x41_74 x42_75 x43_76, rbA a y4_77 y5_78 y6_79 y7_80 y8_81 y9_82 y10_83 y11_84 y14_85 y15_86 y17_87 y18_88)))) ∧ (x40_1.toInt ≤ x40_73.toInt ∧ x40_73.toInt ≤ ((va_up i 40 x40_1) 39).toInt ∧ H01 y10_83) := hw
    obtain ⟨⟨z_90, rfl, hz_z_90⟩, hw_89⟩ := hw
    have hP : va_P (dC, dI) vwCl (mw g h0 b (va_up (va_up (va_up (va_up (va_up (va_up i 1 x1_71) 2 x2_72) 40 x40_73) 41 x41_74) 42 x42_75) 43 x43_76) (va_up (va_up (va_up (va_up (va_up (va_up (va_up (va_up (va_up (va_up (va_up (va_up a 4 y4_77) 5 y5_78) 6 y6_79) 7 y7_80) 8 y8_81) 9 y9_82) 10 y10_83) 11 y11_84) 14 y14_85) 15 y15_86) 17 y17_87) 18 y18_88)) _ := hP
    have hD : va_D _ (mw g h0 b (va_up (va_up (va_up (va_up (va_up (va_up i 1 x1_71) 2 x2_72) 40 x40_73) 41 x41_74) 42 x42_75) 43 x43_76) (va_up (va_up (va_up (va_up (va_up (va_up (va_up (va_up (va_up (va_up (va_up (va_up a 4 y4_77) 5 y5_78) 6 y6_79) 7 y7_80) 8 y8_81) 9 y9_82) 10 y10_83) 11 y11_84) 14 y14_85) 15 y15_86) 17 y17_87) 18 y18_88)) := hD
    refine W.eq (g2 := F0 m 186 ls [.int z_90]) rfl ?_
    have hE : BR kk.toNatClampNeg ck.toNatClampNeg ((va_up i 40 x40_1), a) (z_90, (rbI i x1_71 x2_72 x40_73 x41_74 x42_75 x43_76, rbA a y4_77 y5_78 y6_79 y7_80 y8_81 y9_82 y10_83 y11_84 y14_85 y15_86 y17_87 y18_88)) := BR.ou (show ((z_90, (rbI (va_up i 40 x40_1) x1_71 x2_72 x40_73 x41_74 x42_75 x43_76, rbA a y4_77 y5_78 y6_79 y7_80 y8_81 y9_82 y10_83 y11_84 y14_85 y15_86 y17_87 y18_88)) : Int32 × AS) = (z_90, (rbI i x1_71 x2_72 x40_73 x41_74 x42_75 x43_76, rbA a y4_77 y5_78 y6_79 y7_80 y8_81 y9_82 y10_83 y11_84 y14_85 y15_86 y17_87 y18_88)) from by rw [rbI_eq (f := (va_up i 40 x40_1)) (i := i) (Eqx.up (by decide) (Eqx.rf)), rbA_eq (f := a) (a := a) (Eqx.rf)]) hz_z_90
    obtain ⟨hga, hgb, hgc⟩ := hw_89
    have hga : x40_1.toInt ≤ x40_73.toInt := hga
    have hgb : x40_73.toInt ≤ (i 39).toInt := hgb
    exact M_i hx hb hr hlocks (x1_71, x2_72, x40_73, x41_74, x42_75, x43_76, y4_77, y5_78, y6_79, y7_80, y8_81, y9_82, y10_83, y11_84, y14_85, y15_86, y17_87, y18_88) hP hD hK hS ⟨⟨_, rfl, ⟨(fun _ => by omega), EvR.built hz2_3.1 (nb_7 (by have h6 := hk0 q hVq; rw [← hkq] at h6; exact h6) (fun h6 => c_7 (ez_6.trans h6)) (fun h6 => c_24 (ez_6.trans h6)) (fun h6 => c_32 (ez_6.trans h6)) (fun h6 => c_38 (ez_6.trans h6)) (fun h6 => c_50 (ez_6.trans h6)) (fun h6 => c_59 (ez_6.trans h6)) (fun h6 => c_68 (ez_6.trans h6))) (BR.st (show (va_up i 40 x40_1, a) = coA (i, a) by rw [hz2_3.2]; rfl) hE)⟩⟩, ⟨by omega, by omega, hgc⟩⟩ (by first | exact Nat.le_of_ble_eq_true rfl | (simp only [rm_X10_doesE]; omega)) (by first | exact Nat.le_of_ble_eq_true rfl | (simp only [rm_X10_doesE]; omega)) dX10_does_186
