theorem lj0 {de my : Int32} {d j : Nat} (hd : de = nI d) (hmy : my = nI (d + j)) (h3 : d + j ≤ 3) (h : de = my) : j = 0 := by
  have e : nI d = nI (d + j) := by rw [← hd, ← hmy, h]
  have := (nI_eq (by omega) (by omega)).mp e
  omega

noncomputable abbrev rm_X10_leadsX (j : Nat) (d : Nat) : Room := { frames := j + 20, cells := 0, slots := 0, locals := 100 * j + 300 }
set_option maxHeartbeats 3000000 in
set_option maxRecDepth 100000 in
theorem m_X10_leadsX (l : Launch) (dC : Nat → ClassId) (dI : Nat → Nat → Nat) (sa : Nat → Nat) (g : Nat → Nat) (h0 : Nat) (b : Nat → Nat) (j : Nat) (d : Nat) (i : Nat → Int32) (a : Nat → Nat → Int32) (ck : Int32) (de : Int32) (my : Int32) (lw : Int32) (hg : Int32) (sz : Nat) (hd : de = nI d) (hmy : my = nI (d + j)) (h3 : d + j ≤ 3) (hc30 : vp_in ck 30) (hwt : 1 ≤ ((a 13) ck.toNatClampNeg).toInt ∧ ((a 13) ck.toNatClampNeg).toInt ≤ 50) (IHL : ∀ j' d' : Nat, j = j' + 1 → ∀ (i : Nat → Int32) (a : Nat → Nat → Int32) (ck : Int32) (de : Int32) (my : Int32) (lw : Int32) (hg : Int32) (sz : Nat) (hd : de = nI d') (hmy : my = nI (d' + j')) (h3 : d' + j' ≤ 3) (hc30 : vp_in ck 30) (hwt : 1 ≤ ((a 13) ck.toNatClampNeg).toInt ∧ ((a 13) ck.toNatClampNeg).toInt ≤ 50), CT l dC dI sa yX10_leads wsX10_leads (rm_X10_leadsX j' d') [.ref h0, .int ck, .int de, .int my, .int lw, .int hg] (mw g h0 b i a) (tyM g) sz (fun (r : Option Value) (u : (Nat → Int32) × (Nat → Int32) × (Nat → Int32) × (Nat → Int32) × (Nat → Int32) × (Nat → Int32) × (Nat → Int32) × (Nat → Int32) × (Nat → Int32) × (Nat → Int32)) => match u with | (y4, y5, y6, y7, y14, y15, y47, y48, y49, y50) => ((r = some (.int 0) ∧ (¬ ldR j' (a 4) (a 5) (a 6) (a 7) (a 13) (a 14) (a 15) ck.toNatClampNeg lw hg)) ∨ (r = some (.int 1) ∧ (ldR j' (a 4) (a 5) (a 6) (a 7) (a 13) (a 14) (a 15) ck.toNatClampNeg lw hg))) ∧ (y4 = (a 4) ∧ y5 = (a 5) ∧ y6 = (a 6) ∧ y7 = (a 7) ∧ y14 = (a 14) ∧ y15 = (a 15) ∧ ∀ x9 : Nat, x9 < 26 * d' → y50 x9 = (a 50) x9)) (fun (u : (Nat → Int32) × (Nat → Int32) × (Nat → Int32) × (Nat → Int32) × (Nat → Int32) × (Nat → Int32) × (Nat → Int32) × (Nat → Int32) × (Nat → Int32) × (Nat → Int32)) => match u with | (y4, y5, y6, y7, y14, y15, y47, y48, y49, y50) => mw g h0 b i (va_up (va_up (va_up (va_up (va_up (va_up (va_up (va_up (va_up (va_up a 4 y4) 5 y5) 6 y6) 7 y7) 14 y14) 15 y15) 47 y47) 48 y48) 49 y49) 50 y50)) (fun _ => []) 0 0) : CT l dC dI sa yX10_leads wsX10_leads (rm_X10_leadsX j d) [.ref h0, .int ck, .int de, .int my, .int lw, .int hg] (mw g h0 b i a) (tyM g) sz (fun (r : Option Value) (u : (Nat → Int32) × (Nat → Int32) × (Nat → Int32) × (Nat → Int32) × (Nat → Int32) × (Nat → Int32) × (Nat → Int32) × (Nat → Int32) × (Nat → Int32) × (Nat → Int32)) => match u with | (y4, y5, y6, y7, y14, y15, y47, y48, y49, y50) => ((r = some (.int 0) ∧ (¬ ldR j (a 4) (a 5) (a 6) (a 7) (a 13) (a 14) (a 15) ck.toNatClampNeg lw hg)) ∨ (r = some (.int 1) ∧ (ldR j (a 4) (a 5) (a 6) (a 7) (a 13) (a 14) (a 15) ck.toNatClampNeg lw hg))) ∧ (y4 = (a 4) ∧ y5 = (a 5) ∧ y6 = (a 6) ∧ y7 = (a 7) ∧ y14 = (a 14) ∧ y15 = (a 15) ∧ ∀ x9 : Nat, x9 < 26 * d → y50 x9 = (a 50) x9)) (fun (u : (Nat → Int32) × (Nat → Int32) × (Nat → Int32) × (Nat → Int32) × (Nat → Int32) × (Nat → Int32) × (Nat → Int32) × (Nat → Int32) × (Nat → Int32) × (Nat → Int32)) => match u with | (y4, y5, y6, y7, y14, y15, y47, y48, y49, y50) => mw g h0 b i (va_up (va_up (va_up (va_up (va_up (va_up (va_up (va_up (va_up (va_up a 4 y4) 5 y5) 6 y6) 7 y7) 14 y14) 15 y15) 47 y47) 48 y48) 49 y49) 50 y50)) (fun _ => []) 0 0 := by
  refine CT.start (cc := cX10_leads) (maxL := 9) (ret := (some .boolean)) (by decide) rfl (Nat.le_of_ble_eq_true rfl) ?_
  intro p e s m below meth c ls hst hP hK hD hev hS hl
  obtain ⟨hx, hb, hr, hml, hts, hown, hlocks, hin⟩ := hst
  have hown : s.vm.findClass RX10 = some m.cls := hown
  have hA : ∀ q : Nat, s.heap.size ≤ q → va_A (mw g h0 b i a) s.heap.size q := fun _ h => Or.inr h
  have hl : lv_has ls 9 [(0, .ref h0), (1, .int ck), (2, .int de), (3, .int my), (4, .int lw), (5, .int hg)] := hl
  refine lv_iload_n hx hb dX10_leads_0 rfl (lv_at hl 2 rfl) ?_
  refine lv_iload_n hx hb dX10_leads_1 rfl (lv_at hl 3 rfl) ?_
  refine lv_icmp_ne (tgt := 40) hx hb dX10_leads_2 (by decide) (fun c_1 => ?_) (fun c_1 => ?_)
  · have nc_1 := ne_i c_1
    obtain ⟨j1, hj1⟩ : ∃ j1, j = j1 + 1 := ⟨j - 1, by
      rcases Nat.eq_zero_or_pos j with h9 | h9
      · exact absurd (by rw [hd, hmy, h9]; rfl) c_1
      · omega⟩
    refine lv_aload_n hx hb dX10_leads_40 rfl (lv_at hl 0 rfl) ?_
    refine lv_iload_n hx hb dX10_leads_41 rfl (lv_at hl 2 rfl) ?_
    refine lv_iload_n hx hb dX10_leads_42 rfl (lv_at hl 1 rfl) ?_
    refine M_V ⟨hx, hb, hml, hown, hts⟩ (m_X10_keepsE l dC dI sa g h0 b d i a de ck _ (⟨hd, by omega⟩) hc30) (cwV 2 hts gX10_leads_X10_keeps rfl rfl rfl (by decide +kernel) ⟨(by first | exact Nat.le_of_ble_eq_true rfl | (simp only [rm_X10_keepsE, rm_X10_leadsX]; omega)), (by first | exact Nat.le_of_ble_eq_true rfl | (simp only [rm_X10_keepsE, rm_X10_leadsX]; omega))⟩) hP hD hK hS hA hev rfl rfl rfl rfl hl.1 rfl (Nat.le_of_ble_eq_true rfl) dX10_leads_43 ⟨(by first | exact Nat.le_of_ble_eq_true rfl | (simp only [rm_X10_leadsX]; omega)), (by first | exact Nat.le_of_ble_eq_true rfl | (simp only [rm_X10_leadsX]; omega))⟩ (fun r u H locs hw hP hD hS => ?_)
    obtain ⟨y50_2, rfl⟩ : ∃ z, z = u := ⟨_, rfl⟩
    have hw : (r = none) ∧ (KPT y50_2 d (a 4) (a 5) (a 6) (a 7) 6 ∧ y50_2 (26 * d + 24) = ((a 14) ck.toNatClampNeg) ∧ y50_2 (26 * d + 25) = ((a 15) ck.toNatClampNeg) ∧ KPO y50_2 (a 50) d) := hw
    obtain ⟨rfl, hw_3⟩ := hw
    have hP : va_P (dC, dI) vwCl (mw g h0 b i (va_up a 50 y50_2)) _ := hP
    have hD : va_D _ (mw g h0 b i (va_up a 50 y50_2)) := hD
    refine W.eq (g2 := F0 m 46 ls []) rfl ?_
    obtain ⟨hk1, hk24, hk25, hko⟩ := hw_3
    refine lv_iconst (v := 0) hx hb dX10_leads_46 (by decide) ?_
    refine lv_istore (lv' := [(6, .int 0), (0, .ref h0), (1, .int ck), (2, .int de), (3, .int my), (4, .int lw), (5, .int hg)]) hx hb dX10_leads_47 hl (by decide) rfl (fun ls hl => ?_)
    have lpO : ∀ (nO : Nat) (ii : Int32) (l4O : Nat → Int32) (l5O : Nat → Int32) (l6O : Nat → Int32) (l7O : Nat → Int32) (l14O : Nat → Int32) (l15O : Nat → Int32) (l47O : Nat → Int32) (l48O : Nat → Int32) (l49O : Nat → Int32) (l50O : Nat → Int32) (H : Heap) (locs : List Loc) (ls : Array Slot), (∃ q : Nat, ii = nI q ∧ q ≤ 6 ∧ 6 < q + nO) → (l4O = a 4 ∧ l5O = a 5 ∧ l6O = a 6 ∧ l7O = a 7 ∧ l14O = a 14 ∧ l15O = a 15 ∧ KPT l50O d (a 4) (a 5) (a 6) (a 7) 6 ∧ l50O (26 * d + 24) = a 14 ck.toNatClampNeg ∧ l50O (26 * d + 25) = a 15 ck.toNatClampNeg ∧ ∀ x9 : Nat, x9 < 26 * d → l50O x9 = a 50 x9) → (∃ q : Nat, ii = nI q ∧ q ≤ 6 ∧ NGv j1 (a 4) (a 5) (a 6) (a 7) (a 13) (a 14) (a 15) ck.toNatClampNeg lw hg q) → va_P (dC, dI) vwCl (mw g h0 b i (va_up (va_up (va_up (va_up (va_up (va_up (va_up (va_up (va_up (va_up a 4 l4O) 5 l5O) 6 l6O) 7 l7O) 14 l14O) 15 l15O) 47 l47O) 48 l48O) 49 l49O) 50 l50O)) H → va_D (va_A (mw g h0 b i a) s.heap.size) (mw g h0 b i (va_up (va_up (va_up (va_up (va_up (va_up (va_up (va_up (va_up (va_up a 4 l4O) 5 l5O) 6 l6O) 7 l7O) 14 l14O) 15 l15O) 47 l47O) 48 l48O) 49 l49O) 50 l50O)) → va_S (va_A (mw g h0 b i a) s.heap.size) s.heap H locs → lv_has ls 9 [(6, .int ii), (0, .ref h0), (1, .int ck), (2, .int de), (3, .int my), (4, .int lw), (5, .int hg)] → W p l e (rm_X10_leadsX j d) s m [.ref h0, .int ck, .int de, .int my, .int lw, .int hg].toArray below meth c H locs 0 0 (MQ below (Qg (fun (r : Option Value) (u : (Nat → Int32) × (Nat → Int32) × (Nat → Int32) × (Nat → Int32) × (Nat → Int32) × (Nat → Int32) × (Nat → Int32) × (Nat → Int32) × (Nat → Int32) × (Nat → Int32)) => match u with | (y4, y5, y6, y7, y14, y15, y47, y48, y49, y50) => ((r = some (.int 0) ∧ (¬ ldR j (a 4) (a 5) (a 6) (a 7) (a 13) (a 14) (a 15) ck.toNatClampNeg lw hg)) ∨ (r = some (.int 1) ∧ (ldR j (a 4) (a 5) (a 6) (a 7) (a 13) (a 14) (a 15) ck.toNatClampNeg lw hg))) ∧ (y4 = (a 4) ∧ y5 = (a 5) ∧ y6 = (a 6) ∧ y7 = (a 7) ∧ y14 = (a 14) ∧ y15 = (a 15) ∧ ∀ x9 : Nat, x9 < 26 * d → y50 x9 = (a 50) x9)) (fun u t => QW dC dI (va_A (mw g h0 b i a) s.heap.size) ((fun (u : (Nat → Int32) × (Nat → Int32) × (Nat → Int32) × (Nat → Int32) × (Nat → Int32) × (Nat → Int32) × (Nat → Int32) × (Nat → Int32) × (Nat → Int32) × (Nat → Int32)) => match u with | (y4, y5, y6, y7, y14, y15, y47, y48, y49, y50) => mw g h0 b i (va_up (va_up (va_up (va_up (va_up (va_up (va_up (va_up (va_up (va_up a 4 y4) 5 y5) 6 y6) 7 y7) 14 y14) 15 y15) 47 y47) 48 y48) 49 y49) 50 y50)) u) [] t) (va_A (mw g h0 b i a) s.heap.size)) [.ref h0, .int ck, .int de, .int my, .int lw, .int hg].toArray s 0 0 (va_A (mw g h0 b i a) s.heap.size)) (F0 m 49 ls []) := by
      intro nO
      induction nO with
      | zero => intro ii l4O l5O l6O l7O l14O l15O l47O l48O l49O l50O H locs ls hmO hrO hgO hP hD hS hl; exact absurd hmO (by rintro ⟨q, -, h1, h2⟩; omega)
      | succ nO ihO =>
        intro ii l4O l5O l6O l7O l14O l15O l47O l48O l49O l50O H locs ls hmO hrO hgO hP hD hS hl
        refine lv_iload hx hb dX10_leads_49 (lv_at hl 0 rfl) ?_
        obtain ⟨rfl, rfl, rfl, rfl, rfl, rfl, hpo1, hpo24, hpo25, hpox⟩ := hrO
        have hP : va_P (dC, dI) vwCl (mw g h0 b i (va_up (va_up (va_up (va_up a 47 l47O) 48 l48O) 49 l49O) 50 l50O)) _ := hP
        have hD : va_D _ (mw g h0 b i (va_up (va_up (va_up (va_up a 47 l47O) 48 l48O) 49 l49O) 50 l50O)) := hD
        refine lv_bipush (v := 6) hx hb dX10_leads_51 (by decide) ?_
        refine lv_icmp_ge (tgt := 171) hx hb dX10_leads_53 (by decide) (fun c_4 => ?_) (fun c_4 => ?_)
        · have nc_4 := le_i c_4
          have lc_4 : (6 : Int32).toInt = 6 := by decide
          refine lv_iconst (v := 0) hx hb dX10_leads_171 (by decide) ?_
          exact M_z hx hb hr rfl hlocks ((a 4), (a 5), (a 6), (a 7), (a 14), (a 15), l47O, l48O, l49O, l50O) hP hD hK hS ⟨Or.inl ⟨rfl, (by obtain ⟨q9, h1, h2, h3⟩ := hgO; obtain rfl : q9 = 6 := up_ge h1 h2 (by decide) c_4; rw [hj1]; exact h3.e)⟩, ⟨rfl, rfl, rfl, rfl, rfl, rfl, hpox⟩⟩ (by first | exact Nat.le_of_ble_eq_true rfl | (simp only [rm_X10_leadsX]; omega)) (by first | exact Nat.le_of_ble_eq_true rfl | (simp only [rm_X10_leadsX]; omega)) dX10_leads_172
        · have nc_4 := nle_i c_4
          have lc_4 : (6 : Int32).toInt = 6 := by decide
          refine lv_iconst (v := 1) hx hb dX10_leads_56 (by decide) ?_
          refine lv_istore (lv' := [(7, .int 1), (6, .int ii), (0, .ref h0), (1, .int ck), (2, .int de), (3, .int my), (4, .int lw), (5, .int hg)]) hx hb dX10_leads_57 hl (by decide) rfl (fun ls hl => ?_)
          have lp : ∀ (n : Nat) (mx : Int32) (l4 : Nat → Int32) (l5 : Nat → Int32) (l6 : Nat → Int32) (l7 : Nat → Int32) (l14 : Nat → Int32) (l15 : Nat → Int32) (l47 : Nat → Int32) (l48 : Nat → Int32) (l49 : Nat → Int32) (l50 : Nat → Int32) (H : Heap) (locs : List Loc) (ls : Array Slot), (Dbl mx n) → (l4 = a 4 ∧ l5 = a 5 ∧ l6 = a 6 ∧ l7 = a 7 ∧ l14 = a 14 ∧ l15 = a 15 ∧ KPT l50 d (a 4) (a 5) (a 6) (a 7) 6 ∧ l50 (26 * d + 24) = a 14 ck.toNatClampNeg ∧ l50 (26 * d + 25) = a 15 ck.toNatClampNeg ∧ ∀ x9 : Nat, x9 < 26 * d → l50 x9 = a 50 x9) → (∃ q : Nat, ii = nI q ∧ q < 6 ∧ NGv j1 (a 4) (a 5) (a 6) (a 7) (a 13) (a 14) (a 15) ck.toNatClampNeg lw hg q ∧ NGm j1 (a 4) (a 5) (a 6) (a 7) (a 13) (a 14) (a 15) ck.toNatClampNeg lw hg q mx) → va_P (dC, dI) vwCl (mw g h0 b i (va_up (va_up (va_up (va_up (va_up (va_up (va_up (va_up (va_up (va_up a 4 l4) 5 l5) 6 l6) 7 l7) 14 l14) 15 l15) 47 l47) 48 l48) 49 l49) 50 l50)) H → va_D (va_A (mw g h0 b i a) s.heap.size) (mw g h0 b i (va_up (va_up (va_up (va_up (va_up (va_up (va_up (va_up (va_up (va_up a 4 l4) 5 l5) 6 l6) 7 l7) 14 l14) 15 l15) 47 l47) 48 l48) 49 l49) 50 l50)) → va_S (va_A (mw g h0 b i a) s.heap.size) s.heap H locs → lv_has ls 9 [(7, .int mx), (6, .int ii), (0, .ref h0), (1, .int ck), (2, .int de), (3, .int my), (4, .int lw), (5, .int hg)] → W p l e (rm_X10_leadsX j d) s m [.ref h0, .int ck, .int de, .int my, .int lw, .int hg].toArray below meth c H locs 0 0 (MQ below (Qg (fun (r : Option Value) (u : (Nat → Int32) × (Nat → Int32) × (Nat → Int32) × (Nat → Int32) × (Nat → Int32) × (Nat → Int32) × (Nat → Int32) × (Nat → Int32) × (Nat → Int32) × (Nat → Int32)) => match u with | (y4, y5, y6, y7, y14, y15, y47, y48, y49, y50) => ((r = some (.int 0) ∧ (¬ ldR j (a 4) (a 5) (a 6) (a 7) (a 13) (a 14) (a 15) ck.toNatClampNeg lw hg)) ∨ (r = some (.int 1) ∧ (ldR j (a 4) (a 5) (a 6) (a 7) (a 13) (a 14) (a 15) ck.toNatClampNeg lw hg))) ∧ (y4 = (a 4) ∧ y5 = (a 5) ∧ y6 = (a 6) ∧ y7 = (a 7) ∧ y14 = (a 14) ∧ y15 = (a 15) ∧ ∀ x9 : Nat, x9 < 26 * d → y50 x9 = (a 50) x9)) (fun u t => QW dC dI (va_A (mw g h0 b i a) s.heap.size) ((fun (u : (Nat → Int32) × (Nat → Int32) × (Nat → Int32) × (Nat → Int32) × (Nat → Int32) × (Nat → Int32) × (Nat → Int32) × (Nat → Int32) × (Nat → Int32) × (Nat → Int32)) => match u with | (y4, y5, y6, y7, y14, y15, y47, y48, y49, y50) => mw g h0 b i (va_up (va_up (va_up (va_up (va_up (va_up (va_up (va_up (va_up (va_up a 4 y4) 5 y5) 6 y6) 7 y7) 14 y14) 15 y15) 47 y47) 48 y48) 49 y49) 50 y50)) u) [] t) (va_A (mw g h0 b i a) s.heap.size)) [.ref h0, .int ck, .int de, .int my, .int lw, .int hg].toArray s 0 0 (va_A (mw g h0 b i a) s.heap.size)) (F0 m 59 ls []) := by
            intro n
            induction n with
            | zero => intro mx l4 l5 l6 l7 l14 l15 l47 l48 l49 l50 H locs ls hm hrI hgI hP hD hS hl; exact hm.z.elim
            | succ n ih =>
              intro mx l4 l5 l6 l7 l14 l15 l47 l48 l49 l50 H locs ls hm hrI hgI hP hD hS hl
              refine lv_iload hx hb dX10_leads_59 (lv_at hl 0 rfl) ?_
              obtain ⟨rfl, rfl, rfl, rfl, rfl, rfl, hpi1, hpi24, hpi25, hpix⟩ := hrI
              have hP : va_P (dC, dI) vwCl (mw g h0 b i (va_up (va_up (va_up (va_up a 47 l47) 48 l48) 49 l49) 50 l50)) _ := hP
              have hD : va_D _ (mw g h0 b i (va_up (va_up (va_up (va_up a 47 l47) 48 l48) 49 l49) 50 l50)) := hD
              refine lv_bipush (v := 8) hx hb dX10_leads_61 (by decide) ?_
              refine lv_icmp_gt (tgt := 165) hx hb dX10_leads_63 (by decide) (fun c_5 => ?_) (fun c_5 => ?_)
              · have nc_5 := lt_i c_5
                have lc_5 : (8 : Int32).toInt = 8 := by decide
                refine lv_iinc (v := (ii + 1)) (lv' := [(6, .int (ii + 1)), (7, .int mx), (0, .ref h0), (1, .int ck), (2, .int de), (3, .int my), (4, .int lw), (5, .int hg)]) hx hb dX10_leads_165 hl (k := 1) rfl rfl (by decide) rfl (fun ls hl => ?_)
                refine lv_goto (tgt := 49) hx hb dX10_leads_168 (by decide) ?_
                exact ihO (ii + 1) (a 4) (a 5) (a 6) (a 7) (a 14) (a 15) l47 l48 l49 l50 _ _ _ (up_nx (by decide) hmO (by decide) c_4) (⟨rfl, rfl, rfl, rfl, rfl, rfl, hpi1, hpi24, hpi25, hpix⟩) (by obtain ⟨q9, h1, h2, h3, h4⟩ := hgI; exact ⟨q9 + 1, by rw [h1]; exact nI_1 q9, by omega, h4.e hm c_5 h3⟩) hP hD hS (lv_sub hl [0, 2, 3, 4, 5, 6, 7] rfl)
              · have nc_5 := nlt_i c_5
                have lc_5 : (8 : Int32).toInt = 8 := by decide
                refine lv_aload_n hx hb dX10_leads_66 rfl (lv_at hl 2 rfl) ?_
                refine va_get (D := (dC, dI)) (ci := 10) (v := .ref (b 7)) (C := RX10) (T := TX10) (N := 51) hx hb hts inw_X10_leads_10 hown hK hP 0 rfl rfl 7 (by decide) (hts (.fieldLink RX10 19 "VatHouseModel" "state" "[I") (List.mem_of_getElem? (i := 2) (by exact rfl))) (fun _ h9 => h9) rfl dX10_leads_67 ?_
                refine lv_iload hx hb dX10_leads_70 (lv_at hl 1 rfl) ?_
                refine va_iald hx hb hK hP 4 3 rfl rfl (up_in (by decide) hmO (by decide) c_4 (by decide) (by decide)) dX10_leads_72 ?_
                refine lv_topi (fun z_6 ez_6 => ?_)
                have ez_6 : z_6 = (a 7) ii.toNatClampNeg := ez_6
                refine lv_iconst (v := 2) hx hb dX10_leads_73 (by decide) ?_
                refine lv_icmp_eq (tgt := 156) hx hb dX10_leads_74 (by decide) (fun c_7 => ?_) (fun c_7 => ?_)
                · have nc_7 := eq_i c_7
                  have lc_7 : (2 : Int32).toInt = 2 := by decide
                  refine lv_iload hx hb dX10_leads_156 (lv_at hl 0 rfl) ?_
                  refine lv_iconst (v := 2) hx hb dX10_leads_158 (by decide) ?_
                  refine lv_imul hx hb dX10_leads_159 ?_
                  refine lv_topi (fun z_8 ez_8 => ?_)
                  refine lv_istore (lv' := [(7, .int z_8), (6, .int ii), (0, .ref h0), (1, .int ck), (2, .int de), (3, .int my), (4, .int lw), (5, .int hg)]) hx hb dX10_leads_160 hl (by decide) rfl (fun ls hl => ?_)
                  refine lv_goto (tgt := 59) hx hb dX10_leads_162 (by decide) ?_
                  exact ih z_8 (a 4) (a 5) (a 6) (a 7) (a 14) (a 15) l47 l48 l49 l50 _ _ _ (hm.nx c_5 ez_8) (⟨rfl, rfl, rfl, rfl, rfl, rfl, hpi1, hpi24, hpi25, hpix⟩) (by obtain ⟨q9, h1, h2, h3, h4⟩ := hgI; have hiq : ii.toNatClampNeg = q9 := (by rw [h1]; exact nI_clamp (by omega)); exact ⟨q9, h1, h2, h3, h4.nx hm c_5 (fun h9 => h9.1 (by rw [← hiq, ← ez_6]; exact c_7)) ez_8⟩) hP hD hS (lv_sub hl [0, 1, 2, 3, 4, 5, 6, 7] rfl)
                · have nc_7 := ne_i c_7
                  have lc_7 : (2 : Int32).toInt = 2 := by decide
                  refine lv_aload_n hx hb dX10_leads_77 rfl (lv_at hl 2 rfl) ?_
                  refine lv_iload_n hx hb dX10_leads_78 rfl (lv_at hl 3 rfl) ?_
                  refine lv_iload hx hb dX10_leads_79 (lv_at hl 1 rfl) ?_
                  refine lv_iload hx hb dX10_leads_81 (lv_at hl 0 rfl) ?_
                  refine M_V ⟨hx, hb, hml, hown, hts⟩ (m_X10_movesE l dC dI sa g h0 b i (va_up (va_up (va_up (va_up a 47 l47) 48 l48) 49 l49) 50 l50) ck ii mx _ hc30 (up_in (by decide) hmO (by decide) c_4 (by decide) (by decide)) hwt) (cwV 3 hts gX10_leads_X10_moves rfl rfl rfl (by decide +kernel) ⟨(by first | exact Nat.le_of_ble_eq_true rfl | (simp only [rm_X10_movesE, rm_X10_leadsX]; omega)), (by first | exact Nat.le_of_ble_eq_true rfl | (simp only [rm_X10_movesE, rm_X10_leadsX]; omega))⟩) hP hD hK hS hA hev rfl rfl rfl rfl hl.1 rfl (Nat.le_of_ble_eq_true rfl) dX10_leads_83 ⟨(by first | exact Nat.le_of_ble_eq_true rfl | (simp only [rm_X10_leadsX]; omega)), (by first | exact Nat.le_of_ble_eq_true rfl | (simp only [rm_X10_leadsX]; omega))⟩ (fun r u H locs hw hP hD hS => ?_)
                  have hw : (∃ z : Int32, r = some (.int z) ∧ (z = mvV ((a 4) ii.toNatClampNeg) ((a 7) ii.toNatClampNeg) ((a 13) ck.toNatClampNeg) ((a 14) ck.toNatClampNeg) ((a 15) ck.toNatClampNeg) mx)) ∧ (True) := hw
                  obtain ⟨⟨z_10, rfl, hz_z_10⟩, hw_9⟩ := hw
                  have hP : va_P (dC, dI) vwCl (mw g h0 b i (va_up (va_up (va_up (va_up a 47 l47) 48 l48) 49 l49) 50 l50)) _ := hP
                  have hD : va_D _ (mw g h0 b i (va_up (va_up (va_up (va_up a 47 l47) 48 l48) 49 l49) 50 l50)) := hD
                  refine W.eq (g2 := F0 m 86 ls [.int z_10]) rfl ?_
                  refine lv_if_ne (tgt := 92) hx hb dX10_leads_86 (by decide) (fun c_11 => ?_) (fun c_11 => ?_)
                  · have nc_11 := ne_i c_11
                    have lc_11 : (0 : Int32).toInt = 0 := by decide
                    refine lv_aload_n hx hb dX10_leads_92 rfl (lv_at hl 2 rfl) ?_
                    refine lv_iload_n hx hb dX10_leads_93 rfl (lv_at hl 3 rfl) ?_
                    refine lv_iload hx hb dX10_leads_94 (lv_at hl 1 rfl) ?_
                    refine lv_iload hx hb dX10_leads_96 (lv_at hl 0 rfl) ?_
                    refine M_V ⟨hx, hb, hml, hown, hts⟩ (m_X10_thinksE l dC dI sa g h0 b i (va_up (va_up (va_up (va_up a 47 l47) 48 l48) 49 l49) 50 l50) ck ii mx _ hc30 (up_in (by decide) hmO (by decide) c_4 (by decide) (by decide)) hwt) (cwV 3 hts gX10_leads_X10_thinks rfl rfl rfl (by decide +kernel) ⟨(by first | exact Nat.le_of_ble_eq_true rfl | (simp only [rm_X10_thinksE, rm_X10_leadsX]; omega)), (by first | exact Nat.le_of_ble_eq_true rfl | (simp only [rm_X10_thinksE, rm_X10_leadsX]; omega))⟩) hP hD hK hS hA hev rfl rfl rfl rfl hl.1 rfl (Nat.le_of_ble_eq_true rfl) dX10_leads_98 ⟨(by first | exact Nat.le_of_ble_eq_true rfl | (simp only [rm_X10_leadsX]; omega)), (by first | exact Nat.le_of_ble_eq_true rfl | (simp only [rm_X10_leadsX]; omega))⟩ (fun r u H locs hw hP hD hS => ?_)
                    obtain ⟨y4_12, y5_13, y6_14, y7_15, y14_16, y15_17⟩ := u
                    have hw : (r = none) ∧ (y4_12 = upd (a 4) ii.toNatClampNeg (((a 4) ii.toNatClampNeg) - (mvV ((a 4) ii.toNatClampNeg) ((a 7) ii.toNatClampNeg) ((a 13) ck.toNatClampNeg) ((a 14) ck.toNatClampNeg) ((a 15) ck.toNatClampNeg) mx)) ∧ y5_13 = upd (a 5) ii.toNatClampNeg (skF ((a 5) ii.toNatClampNeg) mx) ∧ y6_14 = upd (a 6) ii.toNatClampNeg (((a 6) ii.toNatClampNeg) + mx) ∧ y7_15 = upd (a 7) ii.toNatClampNeg (skS ((a 6) ii.toNatClampNeg) ((a 5) ii.toNatClampNeg) ((a 7) ii.toNatClampNeg) mx) ∧ y14_16 = upd (a 14) ck.toNatClampNeg (0) ∧ y15_17 = upd (a 15) ck.toNatClampNeg (((a 15) ck.toNatClampNeg) + ((((a 14) ck.toNatClampNeg) + (mvV ((a 4) ii.toNatClampNeg) ((a 7) ii.toNatClampNeg) ((a 13) ck.toNatClampNeg) ((a 14) ck.toNatClampNeg) ((a 15) ck.toNatClampNeg) mx)) - (((a 14) ck.toNatClampNeg) + (mvV ((a 4) ii.toNatClampNeg) ((a 7) ii.toNatClampNeg) ((a 13) ck.toNatClampNeg) ((a 14) ck.toNatClampNeg) ((a 15) ck.toNatClampNeg) mx)) / 8))) := hw
                    obtain ⟨rfl, hw_18⟩ := hw
                    have hP : va_P (dC, dI) vwCl (mw g h0 b i (va_up (va_up (va_up (va_up (va_up (va_up (va_up (va_up (va_up (va_up a 4 y4_12) 5 y5_13) 6 y6_14) 7 y7_15) 14 y14_16) 15 y15_17) 47 l47) 48 l48) 49 l49) 50 l50)) _ := hP
                    have hD : va_D _ (mw g h0 b i (va_up (va_up (va_up (va_up (va_up (va_up (va_up (va_up (va_up (va_up a 4 y4_12) 5 y5_13) 6 y6_14) 7 y7_15) 14 y14_16) 15 y15_17) 47 l47) 48 l48) 49 l49) 50 l50)) := hD
                    refine W.eq (g2 := F0 m 101 ls []) rfl ?_
                    obtain ⟨ht4, ht5, ht6, ht7, ht14, ht15⟩ := hw_18
                    refine lv_aload_n hx hb dX10_leads_101 rfl (lv_at hl 2 rfl) ?_
                    refine va_get (D := (dC, dI)) (ci := 10) (v := .ref (b 47)) (C := RX10) (T := TX10) (N := 51) hx hb hts inw_X10_leads_10 hown hK hP 0 rfl rfl 47 (by decide) (hts (.fieldLink RX10 93 "VatHouseModel" "keptVat" "[I") (List.mem_of_getElem? (i := 3) (by exact rfl))) (fun _ h9 => h9) rfl dX10_leads_102 ?_
                    refine lv_iload_n hx hb dX10_leads_105 rfl (lv_at hl 4 rfl) ?_
                    refine lv_iload hx hb dX10_leads_106 (lv_at hl 1 rfl) ?_
                    refine va_iast hx hb hK hP hD hS 26 25 rfl rfl (by rw [hd]; exact vp_in_nI (by omega) (by decide)) dX10_leads_108 (fun H locs hP hD hS => ?_)
                    have hP : va_P (dC, dI) vwCl (mw g h0 b i (va_up (va_up (va_up (va_up (va_up (va_up (va_up (va_up (va_up (va_up a 4 y4_12) 5 y5_13) 6 y6_14) 7 y7_15) 14 y14_16) 15 y15_17) 47 (upd l47 de.toNatClampNeg ii)) 48 l48) 49 l49) 50 l50)) _ := hP
                    have hD : va_D _ (mw g h0 b i (va_up (va_up (va_up (va_up (va_up (va_up (va_up (va_up (va_up (va_up a 4 y4_12) 5 y5_13) 6 y6_14) 7 y7_15) 14 y14_16) 15 y15_17) 47 (upd l47 de.toNatClampNeg ii)) 48 l48) 49 l49) 50 l50)) := hD
                    obtain ⟨f_19, ef_19⟩ : ∃ z, z = (upd l47 de.toNatClampNeg ii) := ⟨_, rfl⟩
                    rw [← ef_19] at hP hD
                    refine lv_aload_n hx hb dX10_leads_109 rfl (lv_at hl 2 rfl) ?_
                    refine va_get (D := (dC, dI)) (ci := 10) (v := .ref (b 48)) (C := RX10) (T := TX10) (N := 51) hx hb hts inw_X10_leads_10 hown hK hP 0 rfl rfl 48 (by decide) (hts (.fieldLink RX10 96 "VatHouseModel" "keptMinutes" "[I") (List.mem_of_getElem? (i := 4) (by exact rfl))) (fun _ h9 => h9) rfl dX10_leads_110 ?_
                    refine lv_iload_n hx hb dX10_leads_113 rfl (lv_at hl 4 rfl) ?_
                    refine lv_iload hx hb dX10_leads_114 (lv_at hl 0 rfl) ?_
                    refine va_iast hx hb hK hP hD hS 27 26 rfl rfl (by rw [hd]; exact vp_in_nI (by omega) (by decide)) dX10_leads_116 (fun H locs hP hD hS => ?_)
                    have hP : va_P (dC, dI) vwCl (mw g h0 b i (va_up (va_up (va_up (va_up (va_up (va_up (va_up (va_up (va_up (va_up a 4 y4_12) 5 y5_13) 6 y6_14) 7 y7_15) 14 y14_16) 15 y15_17) 47 f_19) 48 (upd l48 de.toNatClampNeg mx)) 49 l49) 50 l50)) _ := hP
                    have hD : va_D _ (mw g h0 b i (va_up (va_up (va_up (va_up (va_up (va_up (va_up (va_up (va_up (va_up a 4 y4_12) 5 y5_13) 6 y6_14) 7 y7_15) 14 y14_16) 15 y15_17) 47 f_19) 48 (upd l48 de.toNatClampNeg mx)) 49 l49) 50 l50)) := hD
                    obtain ⟨f_20, ef_20⟩ : ∃ z, z = (upd l48 de.toNatClampNeg mx) := ⟨_, rfl⟩
                    rw [← ef_20] at hP hD
                    refine lv_aload_n hx hb dX10_leads_117 rfl (lv_at hl 2 rfl) ?_
                    refine va_get (D := (dC, dI)) (ci := 10) (v := .ref (b 49)) (C := RX10) (T := TX10) (N := 51) hx hb hts inw_X10_leads_10 hown hK hP 0 rfl rfl 49 (by decide) (hts (.fieldLink RX10 99 "VatHouseModel" "keptShade" "[I") (List.mem_of_getElem? (i := 5) (by exact rfl))) (fun _ h9 => h9) rfl dX10_leads_118 ?_
                    refine lv_iload_n hx hb dX10_leads_121 rfl (lv_at hl 4 rfl) ?_
                    refine lv_aload_n hx hb dX10_leads_122 rfl (lv_at hl 2 rfl) ?_
                    refine lv_iload_n hx hb dX10_leads_123 rfl (lv_at hl 3 rfl) ?_
                    refine M_V ⟨hx, hb, hml, hown, hts⟩ (m_X10_shadeOfE l dC dI sa g h0 b i (va_up (va_up (va_up (va_up (va_up (va_up (va_up (va_up (va_up (va_up a 4 y4_12) 5 y5_13) 6 y6_14) 7 y7_15) 14 y14_16) 15 y15_17) 47 f_19) 48 f_20) 49 l49) 50 l50) ck _ hc30 hwt) (cwV 1 hts gX10_leads_X10_shadeOf rfl rfl rfl (by decide +kernel) ⟨(by first | exact Nat.le_of_ble_eq_true rfl | (simp only [rm_X10_shadeOfE, rm_X10_leadsX]; omega)), (by first | exact Nat.le_of_ble_eq_true rfl | (simp only [rm_X10_shadeOfE, rm_X10_leadsX]; omega))⟩) hP hD hK hS hA hev rfl rfl rfl rfl hl.1 rfl (Nat.le_of_ble_eq_true rfl) dX10_leads_124 ⟨(by first | exact Nat.le_of_ble_eq_true rfl | (simp only [rm_X10_leadsX]; omega)), (by first | exact Nat.le_of_ble_eq_true rfl | (simp only [rm_X10_leadsX]; omega))⟩ (fun r u H locs hw hP hD hS => ?_)
                    have hw : (∃ z : Int32, r = some (.int z) ∧ (z = (y15_17 ck.toNatClampNeg) / ((a 13) ck.toNatClampNeg))) ∧ (True) := hw
                    obtain ⟨⟨z_22, rfl, hz_z_22⟩, hw_21⟩ := hw
                    have hP : va_P (dC, dI) vwCl (mw g h0 b i (va_up (va_up (va_up (va_up (va_up (va_up (va_up (va_up (va_up (va_up a 4 y4_12) 5 y5_13) 6 y6_14) 7 y7_15) 14 y14_16) 15 y15_17) 47 f_19) 48 f_20) 49 l49) 50 l50)) _ := hP
                    have hD : va_D _ (mw g h0 b i (va_up (va_up (va_up (va_up (va_up (va_up (va_up (va_up (va_up (va_up a 4 y4_12) 5 y5_13) 6 y6_14) 7 y7_15) 14 y14_16) 15 y15_17) 47 f_19) 48 f_20) 49 l49) 50 l50)) := hD
                    refine W.eq (g2 := F0 m 127 ls [.int z_22, .int de, .ref (b 49)]) rfl ?_
                    refine va_iast hx hb hK hP hD hS 28 27 rfl rfl (by rw [hd]; exact vp_in_nI (by omega) (by decide)) dX10_leads_127 (fun H locs hP hD hS => ?_)
                    have hP : va_P (dC, dI) vwCl (mw g h0 b i (va_up (va_up (va_up (va_up (va_up (va_up (va_up (va_up (va_up (va_up a 4 y4_12) 5 y5_13) 6 y6_14) 7 y7_15) 14 y14_16) 15 y15_17) 47 f_19) 48 f_20) 49 (upd l49 de.toNatClampNeg z_22)) 50 l50)) _ := hP
                    have hD : va_D _ (mw g h0 b i (va_up (va_up (va_up (va_up (va_up (va_up (va_up (va_up (va_up (va_up a 4 y4_12) 5 y5_13) 6 y6_14) 7 y7_15) 14 y14_16) 15 y15_17) 47 f_19) 48 f_20) 49 (upd l49 de.toNatClampNeg z_22)) 50 l50)) := hD
                    obtain ⟨f_23, ef_23⟩ : ∃ z, z = (upd l49 de.toNatClampNeg z_22) := ⟨_, rfl⟩
                    rw [← ef_23] at hP hD
                    refine lv_aload_n hx hb dX10_leads_128 rfl (lv_at hl 2 rfl) ?_
                    refine lv_iload_n hx hb dX10_leads_129 rfl (lv_at hl 3 rfl) ?_
                    refine lv_iload_n hx hb dX10_leads_130 rfl (lv_at hl 4 rfl) ?_
                    refine lv_iconst (v := 1) hx hb dX10_leads_131 (by decide) ?_
                    refine lv_iadd hx hb dX10_leads_132 ?_
                    refine lv_topi (fun z_24 ez_24 => ?_)
                    refine lv_iload_n hx hb dX10_leads_133 rfl (lv_at hl 5 rfl) ?_
                    refine lv_iload hx hb dX10_leads_134 (lv_at hl 6 rfl) ?_
                    refine lv_iload hx hb dX10_leads_136 (lv_at hl 7 rfl) ?_
                    refine M_V ⟨hx, hb, hml, hown, hts⟩ (IHL j1 (d + 1) hj1 i (va_up (va_up (va_up (va_up (va_up (va_up (va_up (va_up (va_up (va_up a 4 y4_12) 5 y5_13) 6 y6_14) 7 y7_15) 14 y14_16) 15 y15_17) 47 f_19) 48 f_20) 49 f_23) 50 l50) ck z_24 my lw hg _ (by rw [ez_24, hd]; exact nI_1 d) (by rw [hmy]; exact congrArg nI (by omega)) (by omega) hc30 hwt) (cwV 5 hts gX10_leads_X10_leads rfl rfl rfl (by decide +kernel) ⟨(by first | exact Nat.le_of_ble_eq_true rfl | (simp only [rm_X10_leadsX, rm_X10_leadsX]; omega)), (by first | exact Nat.le_of_ble_eq_true rfl | (simp only [rm_X10_leadsX, rm_X10_leadsX]; omega))⟩) hP hD hK hS hA hev rfl rfl rfl rfl hl.1 rfl (Nat.le_of_ble_eq_true rfl) dX10_leads_138 ⟨(by first | exact Nat.le_of_ble_eq_true rfl | (simp only [rm_X10_leadsX]; omega)), (by first | exact Nat.le_of_ble_eq_true rfl | (simp only [rm_X10_leadsX]; omega))⟩ (fun r u H locs hw hP hD hS => ?_)
                    obtain ⟨y4_25, y5_26, y6_27, y7_28, y14_29, y15_30, y47_31, y48_32, y49_33, y50_34⟩ := u
                    have hw : ((r = some (.int 0) ∧ (¬ ldR j1 y4_12 y5_13 y6_14 y7_15 (a 13) y14_16 y15_17 ck.toNatClampNeg lw hg)) ∨ (r = some (.int 1) ∧ (ldR j1 y4_12 y5_13 y6_14 y7_15 (a 13) y14_16 y15_17 ck.toNatClampNeg lw hg))) ∧ (y4_25 = y4_12 ∧ y5_26 = y5_13 ∧ y6_27 = y6_14 ∧ y7_28 = y7_15 ∧ y14_29 = y14_16 ∧ y15_30 = y15_17 ∧ ∀ x9 : Nat, x9 < 26 * (d + 1) → y50_34 x9 = l50 x9) := hw
                    obtain ⟨⟨rfl, hz2_36⟩ | ⟨rfl, hz2_36⟩, hw_35⟩ := hw
                    · have hP : va_P (dC, dI) vwCl (mw g h0 b i (va_up (va_up (va_up (va_up (va_up (va_up (va_up (va_up (va_up (va_up a 4 y4_25) 5 y5_26) 6 y6_27) 7 y7_28) 14 y14_29) 15 y15_30) 47 y47_31) 48 y48_32) 49 y49_33) 50 y50_34)) _ := hP
                      have hD : va_D _ (mw g h0 b i (va_up (va_up (va_up (va_up (va_up (va_up (va_up (va_up (va_up (va_up a 4 y4_25) 5 y5_26) 6 y6_27) 7 y7_28) 14 y14_29) 15 y15_30) 47 y47_31) 48 y48_32) 49 y49_33) 50 y50_34)) := hD
                      refine W.eq (g2 := F0 m 141 ls [.int 0]) rfl ?_
                      obtain ⟨hle4, hle5, hle6, hle7, hle14, hle15, hlx⟩ := hw_35
                      refine lv_istore (lv' := [(8, .int 0), (7, .int mx), (6, .int ii), (0, .ref h0), (1, .int ck), (2, .int de), (3, .int my), (4, .int lw), (5, .int hg)]) hx hb dX10_leads_141 hl (by decide) rfl (fun ls hl => ?_)
                      refine lv_aload_n hx hb dX10_leads_143 rfl (lv_at hl 3 rfl) ?_
                      refine lv_iload_n hx hb dX10_leads_144 rfl (lv_at hl 5 rfl) ?_
                      refine lv_iload_n hx hb dX10_leads_145 rfl (lv_at hl 4 rfl) ?_
                      refine M_V ⟨hx, hb, hml, hown, hts⟩ (m_X10_restoresE l dC dI sa g h0 b d i (va_up (va_up (va_up (va_up (va_up (va_up (va_up (va_up (va_up (va_up a 4 y4_25) 5 y5_26) 6 y6_27) 7 y7_28) 14 y14_29) 15 y15_30) 47 y47_31) 48 y48_32) 49 y49_33) 50 y50_34) de ck _ (⟨hd, by omega⟩) hc30) (cwV 2 hts gX10_leads_X10_restores rfl rfl rfl (by decide +kernel) ⟨(by first | exact Nat.le_of_ble_eq_true rfl | (simp only [rm_X10_restoresE, rm_X10_leadsX]; omega)), (by first | exact Nat.le_of_ble_eq_true rfl | (simp only [rm_X10_restoresE, rm_X10_leadsX]; omega))⟩) hP hD hK hS hA hev rfl rfl rfl rfl hl.1 rfl (Nat.le_of_ble_eq_true rfl) dX10_leads_146 ⟨(by first | exact Nat.le_of_ble_eq_true rfl | (simp only [rm_X10_leadsX]; omega)), (by first | exact Nat.le_of_ble_eq_true rfl | (simp only [rm_X10_leadsX]; omega))⟩ (fun r u H locs hw hP hD hS => ?_)
                      obtain ⟨y4_37, y5_38, y6_39, y7_40, y14_41, y15_42⟩ := u
                      have hw : (r = none) ∧ (y4_37 = (fun k => if k < 6 then y50_34 (26 * d + 4 * k) else y4_25 k) ∧ y5_38 = (fun k => if k < 6 then y50_34 (26 * d + 4 * k + 1) else y5_26 k) ∧ y6_39 = (fun k => if k < 6 then y50_34 (26 * d + 4 * k + 2) else y6_27 k) ∧ y7_40 = (fun k => if k < 6 then y50_34 (26 * d + 4 * k + 3) else y7_28 k) ∧ y14_41 = upd y14_29 ck.toNatClampNeg (y50_34 (26 * d + 24)) ∧ y15_42 = upd y15_30 ck.toNatClampNeg (y50_34 (26 * d + 25))) := hw
                      obtain ⟨rfl, hw_43⟩ := hw
                      have hP : va_P (dC, dI) vwCl (mw g h0 b i (va_up (va_up (va_up (va_up (va_up (va_up (va_up (va_up (va_up (va_up a 4 y4_37) 5 y5_38) 6 y6_39) 7 y7_40) 14 y14_41) 15 y15_42) 47 y47_31) 48 y48_32) 49 y49_33) 50 y50_34)) _ := hP
                      have hD : va_D _ (mw g h0 b i (va_up (va_up (va_up (va_up (va_up (va_up (va_up (va_up (va_up (va_up a 4 y4_37) 5 y5_38) 6 y6_39) 7 y7_40) 14 y14_41) 15 y15_42) 47 y47_31) 48 y48_32) 49 y49_33) 50 y50_34)) := hD
                      refine W.eq (g2 := F0 m 149 ls []) rfl ?_
                      have hkt := hpi1.fr (Nat.le_refl 6) hlx
                      have hv6 : ii.toNatClampNeg < 6 := idx_lt (n := 6) (up_in (by decide) hmO (by decide) c_4 (by decide) (by decide))
                      obtain ⟨hr4, hr5, hr6, hr7, hr14, hr15⟩ := hw_43
                      have hb4 : y4_37 = a 4 := by rw [hr4]; exact lay_b (fun v9 h9 => (hkt v9 h9).1) (fun v9 h9 => by rw [hle4, ht4]; exact upd_ne (by omega))
                      have hb5 : y5_38 = a 5 := by rw [hr5]; exact lay_b (fun v9 h9 => (hkt v9 h9).2.1) (fun v9 h9 => by rw [hle5, ht5]; exact upd_ne (by omega))
                      have hb6 : y6_39 = a 6 := by rw [hr6]; exact lay_b (fun v9 h9 => (hkt v9 h9).2.2.1) (fun v9 h9 => by rw [hle6, ht6]; exact upd_ne (by omega))
                      have hb7 : y7_40 = a 7 := by rw [hr7]; exact lay_b (fun v9 h9 => (hkt v9 h9).2.2.2) (fun v9 h9 => by rw [hle7, ht7]; exact upd_ne (by omega))
                      have hb14 : y14_41 = a 14 := by rw [hr14]; exact lay_c ((hlx _ (by omega)).trans hpi24) (fun v9 h9 => by rw [hle14, ht14]; exact upd_ne h9)
                      have hb15 : y15_42 = a 15 := by rw [hr15]; exact lay_c ((hlx _ (by omega)).trans hpi25) (fun v9 h9 => by rw [hle15, ht15]; exact upd_ne h9)
                      have hk24n := (hlx (26 * d + 24) (by omega)).trans hpi24
                      have hk25n := (hlx (26 * d + 25) (by omega)).trans hpi25
                      have hkxn : ∀ x9 : Nat, x9 < 26 * d → y50_34 x9 = a 50 x9 := fun x9 h9 => (hlx x9 (by omega)).trans (hpix x9 h9)
                      subst hb4; subst hb5; subst hb6; subst hb7; subst hb14; subst hb15
                      have hP : va_P (dC, dI) vwCl (mw g h0 b i (va_up (va_up (va_up (va_up a 47 y47_31) 48 y48_32) 49 y49_33) 50 y50_34)) _ := hP
                      have hD : va_D _ (mw g h0 b i (va_up (va_up (va_up (va_up a 47 y47_31) 48 y48_32) 49 y49_33) 50 y50_34)) := hD
                      refine lv_iload hx hb dX10_leads_149 (lv_at hl 0 rfl) ?_
                      refine lv_if_eq (tgt := 156) hx hb dX10_leads_151 (by decide) (fun _ => ?_) (fun c_44 => absurd c_44 (by decide))
                      refine lv_iload hx hb dX10_leads_156 (lv_at hl 1 rfl) ?_
                      refine lv_iconst (v := 2) hx hb dX10_leads_158 (by decide) ?_
                      refine lv_imul hx hb dX10_leads_159 ?_
                      refine lv_topi (fun z_45 ez_45 => ?_)
                      refine lv_istore (lv' := [(7, .int z_45), (8, .int 0), (6, .int ii), (0, .ref h0), (1, .int ck), (2, .int de), (3, .int my), (4, .int lw), (5, .int hg)]) hx hb dX10_leads_160 hl (by decide) rfl (fun ls hl => ?_)
                      refine lv_goto (tgt := 59) hx hb dX10_leads_162 (by decide) ?_
                      exact ih z_45 (a 4) (a 5) (a 6) (a 7) (a 14) (a 15) y47_31 y48_32 y49_33 y50_34 _ _ _ (hm.nx c_5 ez_45) (⟨rfl, rfl, rfl, rfl, rfl, rfl, hkt, hk24n, hk25n, hkxn⟩) (by obtain ⟨q9, h1, h2, h3, h4⟩ := hgI; have hiq : ii.toNatClampNeg = q9 := (by rw [h1]; exact nI_clamp (by omega)); exact ⟨q9, h1, h2, h3, h4.nx hm c_5 (fun h9 => hz2_36 (by rw [ht4, ht5, ht6, ht7, ht14, ht15, hiq]; exact h9.2.2)) ez_45⟩) hP hD hS (lv_sub hl [0, 2, 3, 4, 5, 6, 7, 8] rfl)
                    · have hP : va_P (dC, dI) vwCl (mw g h0 b i (va_up (va_up (va_up (va_up (va_up (va_up (va_up (va_up (va_up (va_up a 4 y4_25) 5 y5_26) 6 y6_27) 7 y7_28) 14 y14_29) 15 y15_30) 47 y47_31) 48 y48_32) 49 y49_33) 50 y50_34)) _ := hP
                      have hD : va_D _ (mw g h0 b i (va_up (va_up (va_up (va_up (va_up (va_up (va_up (va_up (va_up (va_up a 4 y4_25) 5 y5_26) 6 y6_27) 7 y7_28) 14 y14_29) 15 y15_30) 47 y47_31) 48 y48_32) 49 y49_33) 50 y50_34)) := hD
                      refine W.eq (g2 := F0 m 141 ls [.int 1]) rfl ?_
                      obtain ⟨hle4, hle5, hle6, hle7, hle14, hle15, hlx⟩ := hw_35
                      refine lv_istore (lv' := [(8, .int 1), (7, .int mx), (6, .int ii), (0, .ref h0), (1, .int ck), (2, .int de), (3, .int my), (4, .int lw), (5, .int hg)]) hx hb dX10_leads_141 hl (by decide) rfl (fun ls hl => ?_)
                      refine lv_aload_n hx hb dX10_leads_143 rfl (lv_at hl 3 rfl) ?_
                      refine lv_iload_n hx hb dX10_leads_144 rfl (lv_at hl 5 rfl) ?_
                      refine lv_iload_n hx hb dX10_leads_145 rfl (lv_at hl 4 rfl) ?_
                      refine M_V ⟨hx, hb, hml, hown, hts⟩ (m_X10_restoresE l dC dI sa g h0 b d i (va_up (va_up (va_up (va_up (va_up (va_up (va_up (va_up (va_up (va_up a 4 y4_25) 5 y5_26) 6 y6_27) 7 y7_28) 14 y14_29) 15 y15_30) 47 y47_31) 48 y48_32) 49 y49_33) 50 y50_34) de ck _ (⟨hd, by omega⟩) hc30) (cwV 2 hts gX10_leads_X10_restores rfl rfl rfl (by decide +kernel) ⟨(by first | exact Nat.le_of_ble_eq_true rfl | (simp only [rm_X10_restoresE, rm_X10_leadsX]; omega)), (by first | exact Nat.le_of_ble_eq_true rfl | (simp only [rm_X10_restoresE, rm_X10_leadsX]; omega))⟩) hP hD hK hS hA hev rfl rfl rfl rfl hl.1 rfl (Nat.le_of_ble_eq_true rfl) dX10_leads_146 ⟨(by first | exact Nat.le_of_ble_eq_true rfl | (simp only [rm_X10_leadsX]; omega)), (by first | exact Nat.le_of_ble_eq_true rfl | (simp only [rm_X10_leadsX]; omega))⟩ (fun r u H locs hw hP hD hS => ?_)
                      obtain ⟨y4_46, y5_47, y6_48, y7_49, y14_50, y15_51⟩ := u
                      have hw : (r = none) ∧ (y4_46 = (fun k => if k < 6 then y50_34 (26 * d + 4 * k) else y4_25 k) ∧ y5_47 = (fun k => if k < 6 then y50_34 (26 * d + 4 * k + 1) else y5_26 k) ∧ y6_48 = (fun k => if k < 6 then y50_34 (26 * d + 4 * k + 2) else y6_27 k) ∧ y7_49 = (fun k => if k < 6 then y50_34 (26 * d + 4 * k + 3) else y7_28 k) ∧ y14_50 = upd y14_29 ck.toNatClampNeg (y50_34 (26 * d + 24)) ∧ y15_51 = upd y15_30 ck.toNatClampNeg (y50_34 (26 * d + 25))) := hw
                      obtain ⟨rfl, hw_52⟩ := hw
                      have hP : va_P (dC, dI) vwCl (mw g h0 b i (va_up (va_up (va_up (va_up (va_up (va_up (va_up (va_up (va_up (va_up a 4 y4_46) 5 y5_47) 6 y6_48) 7 y7_49) 14 y14_50) 15 y15_51) 47 y47_31) 48 y48_32) 49 y49_33) 50 y50_34)) _ := hP
                      have hD : va_D _ (mw g h0 b i (va_up (va_up (va_up (va_up (va_up (va_up (va_up (va_up (va_up (va_up a 4 y4_46) 5 y5_47) 6 y6_48) 7 y7_49) 14 y14_50) 15 y15_51) 47 y47_31) 48 y48_32) 49 y49_33) 50 y50_34)) := hD
                      refine W.eq (g2 := F0 m 149 ls []) rfl ?_
                      have hkt := hpi1.fr (Nat.le_refl 6) hlx
                      have hv6 : ii.toNatClampNeg < 6 := idx_lt (n := 6) (up_in (by decide) hmO (by decide) c_4 (by decide) (by decide))
                      obtain ⟨hr4, hr5, hr6, hr7, hr14, hr15⟩ := hw_52
                      have hb4 : y4_46 = a 4 := by rw [hr4]; exact lay_b (fun v9 h9 => (hkt v9 h9).1) (fun v9 h9 => by rw [hle4, ht4]; exact upd_ne (by omega))
                      have hb5 : y5_47 = a 5 := by rw [hr5]; exact lay_b (fun v9 h9 => (hkt v9 h9).2.1) (fun v9 h9 => by rw [hle5, ht5]; exact upd_ne (by omega))
                      have hb6 : y6_48 = a 6 := by rw [hr6]; exact lay_b (fun v9 h9 => (hkt v9 h9).2.2.1) (fun v9 h9 => by rw [hle6, ht6]; exact upd_ne (by omega))
                      have hb7 : y7_49 = a 7 := by rw [hr7]; exact lay_b (fun v9 h9 => (hkt v9 h9).2.2.2) (fun v9 h9 => by rw [hle7, ht7]; exact upd_ne (by omega))
                      have hb14 : y14_50 = a 14 := by rw [hr14]; exact lay_c ((hlx _ (by omega)).trans hpi24) (fun v9 h9 => by rw [hle14, ht14]; exact upd_ne h9)
                      have hb15 : y15_51 = a 15 := by rw [hr15]; exact lay_c ((hlx _ (by omega)).trans hpi25) (fun v9 h9 => by rw [hle15, ht15]; exact upd_ne h9)
                      have hk24n := (hlx (26 * d + 24) (by omega)).trans hpi24
                      have hk25n := (hlx (26 * d + 25) (by omega)).trans hpi25
                      have hkxn : ∀ x9 : Nat, x9 < 26 * d → y50_34 x9 = a 50 x9 := fun x9 h9 => (hlx x9 (by omega)).trans (hpix x9 h9)
                      subst hb4; subst hb5; subst hb6; subst hb7; subst hb14; subst hb15
                      have hP : va_P (dC, dI) vwCl (mw g h0 b i (va_up (va_up (va_up (va_up a 47 y47_31) 48 y48_32) 49 y49_33) 50 y50_34)) _ := hP
                      have hD : va_D _ (mw g h0 b i (va_up (va_up (va_up (va_up a 47 y47_31) 48 y48_32) 49 y49_33) 50 y50_34)) := hD
                      refine lv_iload hx hb dX10_leads_149 (lv_at hl 0 rfl) ?_
                      refine lv_if_eq (tgt := 156) hx hb dX10_leads_151 (by decide) (fun c_53 => absurd c_53 (by decide)) (fun _ => ?_)
                      refine lv_iconst (v := 1) hx hb dX10_leads_154 (by decide) ?_
                      exact M_z hx hb hr rfl hlocks ((a 4), (a 5), (a 6), (a 7), (a 14), (a 15), y47_31, y48_32, y49_33, y50_34) hP hD hK hS ⟨Or.inr ⟨rfl, (by obtain ⟨q9, h1, h2, -, -⟩ := hgI; have hiq : ii.toNatClampNeg = q9 := (by rw [h1]; exact nI_clamp (by omega)); rw [hj1]; exact ldR_s.mpr ⟨q9, mx, h2, hm.m4 c_5, (fun h9 => c_7 (ez_6.trans (by rw [hiq]; exact h9))), (fun h9 => c_11 (hz_z_10.trans (by rw [hiq]; exact h9))), by have h8 := hz2_36; rw [ht4, ht5, ht6, ht7, ht14, ht15, hiq] at h8; exact h8⟩)⟩, ⟨rfl, rfl, rfl, rfl, rfl, rfl, hkxn⟩⟩ (by first | exact Nat.le_of_ble_eq_true rfl | (simp only [rm_X10_leadsX]; omega)) (by first | exact Nat.le_of_ble_eq_true rfl | (simp only [rm_X10_leadsX]; omega)) dX10_leads_155
                  · have nc_11 := eq_i c_11
                    have lc_11 : (0 : Int32).toInt = 0 := by decide
                    refine lv_goto (tgt := 156) hx hb dX10_leads_89 (by decide) ?_
                    refine lv_iload hx hb dX10_leads_156 (lv_at hl 0 rfl) ?_
                    refine lv_iconst (v := 2) hx hb dX10_leads_158 (by decide) ?_
                    refine lv_imul hx hb dX10_leads_159 ?_
                    refine lv_topi (fun z_54 ez_54 => ?_)
                    refine lv_istore (lv' := [(7, .int z_54), (6, .int ii), (0, .ref h0), (1, .int ck), (2, .int de), (3, .int my), (4, .int lw), (5, .int hg)]) hx hb dX10_leads_160 hl (by decide) rfl (fun ls hl => ?_)
                    refine lv_goto (tgt := 59) hx hb dX10_leads_162 (by decide) ?_
                    exact ih z_54 (a 4) (a 5) (a 6) (a 7) (a 14) (a 15) l47 l48 l49 l50 _ _ _ (hm.nx c_5 ez_54) (⟨rfl, rfl, rfl, rfl, rfl, rfl, hpi1, hpi24, hpi25, hpix⟩) (by obtain ⟨q9, h1, h2, h3, h4⟩ := hgI; have hiq : ii.toNatClampNeg = q9 := (by rw [h1]; exact nI_clamp (by omega)); exact ⟨q9, h1, h2, h3, h4.nx hm c_5 (fun h9 => h9.2.1 (by rw [← hiq]; exact hz_z_10.symm.trans c_11)) ez_54⟩) hP hD hS (lv_sub hl [0, 1, 2, 3, 4, 5, 6, 7] rfl)
          exact lp 5 (1 : Int32) (a 4) (a 5) (a 6) (a 7) (a 14) (a 15) l47O l48O l49O l50O _ _ _ (Or.inl ⟨rfl, by omega⟩) (⟨rfl, rfl, rfl, rfl, rfl, rfl, hpo1, hpo24, hpo25, hpox⟩) (by obtain ⟨q9, h1, h2, h3⟩ := hgO; exact ⟨q9, h1, up_lt (by decide) h1 h2 (by decide) c_4, h3, NGm.o⟩) hP hD hS (lv_sub hl [0, 1, 2, 3, 4, 5, 6, 7] rfl)
    exact lpO 7 (0 : Int32) (a 4) (a 5) (a 6) (a 7) (a 14) (a 15) (a 47) (a 48) (a 49) y50_2 _ _ _ (⟨0, nI_0.symm, by omega, by omega⟩) (⟨rfl, rfl, rfl, rfl, rfl, rfl, hk1, hk24, hk25, (fun x9 h9 => hko x9 (Or.inl h9))⟩) (⟨0, nI_0.symm, by omega, NGv.o⟩) hP hD hS (lv_sub hl [0, 1, 2, 3, 4, 5, 6] rfl)
  · have nc_1 := eq_i c_1
    refine lv_aload_n hx hb dX10_leads_5 rfl (lv_at hl 0 rfl) ?_
    refine va_get (D := (dC, dI)) (ci := 10) (v := .ref (b 14)) (C := RX10) (T := TX10) (N := 51) hx hb hts inw_X10_leads_10 hown hK hP 0 rfl rfl 14 (by decide) (hts (.fieldLink RX10 38 "VatHouseModel" "loose" "[I") (List.mem_of_getElem? (i := 1) (by exact rfl))) (fun _ h9 => h9) rfl dX10_leads_6 ?_
    refine lv_iload_n hx hb dX10_leads_9 rfl (lv_at hl 1 rfl) ?_
    refine va_iald hx hb hK hP 10 9 rfl rfl (by assumption) dX10_leads_10 ?_
    refine lv_topi (fun z_55 ez_55 => ?_)
    have ez_55 : z_55 = (a 14) ck.toNatClampNeg := ez_55
    refine lv_if_ne (tgt := 38) hx hb dX10_leads_11 (by decide) (fun c_56 => ?_) (fun c_56 => ?_)
    · have nc_56 := ne_i c_56
      have lc_56 : (0 : Int32).toInt = 0 := by decide
      refine lv_iconst (v := 0) hx hb dX10_leads_38 (by decide) ?_
      exact M_z hx hb hr rfl hlocks ((a 4), (a 5), (a 6), (a 7), (a 14), (a 15), (a 47), (a 48), (a 49), (a 50)) hP hD hK hS ⟨Or.inl ⟨rfl, (fun h9 => by rw [lj0 hd hmy h3 c_1] at h9; have h8 := ldR_z.mp h9; exact c_56 (ez_55.trans h8.1))⟩, ⟨rfl, rfl, rfl, rfl, rfl, rfl, (fun _ _ => rfl)⟩⟩ (by first | exact Nat.le_of_ble_eq_true rfl | (simp only [rm_X10_leadsX]; omega)) (by first | exact Nat.le_of_ble_eq_true rfl | (simp only [rm_X10_leadsX]; omega)) dX10_leads_39
    · have nc_56 := eq_i c_56
      have lc_56 : (0 : Int32).toInt = 0 := by decide
      refine lv_aload_n hx hb dX10_leads_14 rfl (lv_at hl 0 rfl) ?_
      refine lv_iload_n hx hb dX10_leads_15 rfl (lv_at hl 1 rfl) ?_
      refine M_V ⟨hx, hb, hml, hown, hts⟩ (m_X10_shadeOfE l dC dI sa g h0 b i a ck _ hc30 hwt) (cwV 1 hts gX10_leads_X10_shadeOf rfl rfl rfl (by decide +kernel) ⟨(by first | exact Nat.le_of_ble_eq_true rfl | (simp only [rm_X10_shadeOfE, rm_X10_leadsX]; omega)), (by first | exact Nat.le_of_ble_eq_true rfl | (simp only [rm_X10_shadeOfE, rm_X10_leadsX]; omega))⟩) hP hD hK hS hA hev rfl rfl rfl rfl hl.1 rfl (Nat.le_of_ble_eq_true rfl) dX10_leads_16 ⟨(by first | exact Nat.le_of_ble_eq_true rfl | (simp only [rm_X10_leadsX]; omega)), (by first | exact Nat.le_of_ble_eq_true rfl | (simp only [rm_X10_leadsX]; omega))⟩ (fun r u H locs hw hP hD hS => ?_)
      have hw : (∃ z : Int32, r = some (.int z) ∧ (z = ((a 15) ck.toNatClampNeg) / ((a 13) ck.toNatClampNeg))) ∧ (True) := hw
      obtain ⟨⟨z_58, rfl, hz_z_58⟩, hw_57⟩ := hw
      have hP : va_P (dC, dI) vwCl (mw g h0 b i a) _ := hP
      have hD : va_D _ (mw g h0 b i a) := hD
      refine W.eq (g2 := F0 m 19 ls [.int z_58]) rfl ?_
      refine lv_iload hx hb dX10_leads_19 (lv_at hl 4 rfl) ?_
      refine lv_icmp_lt (tgt := 38) hx hb dX10_leads_21 (by decide) (fun c_59 => ?_) (fun c_59 => ?_)
      · have nc_59 := lt_i c_59
        refine lv_iconst (v := 0) hx hb dX10_leads_38 (by decide) ?_
        exact M_z hx hb hr rfl hlocks ((a 4), (a 5), (a 6), (a 7), (a 14), (a 15), (a 47), (a 48), (a 49), (a 50)) hP hD hK hS ⟨Or.inl ⟨rfl, (fun h9 => by rw [lj0 hd hmy h3 c_1] at h9; have h8 := ldR_z.mp h9; exact le_nlt h8.2.1 (by rw [← hz_z_58]; exact c_59))⟩, ⟨rfl, rfl, rfl, rfl, rfl, rfl, (fun _ _ => rfl)⟩⟩ (by first | exact Nat.le_of_ble_eq_true rfl | (simp only [rm_X10_leadsX]; omega)) (by first | exact Nat.le_of_ble_eq_true rfl | (simp only [rm_X10_leadsX]; omega)) dX10_leads_39
      · have nc_59 := nlt_i c_59
        refine lv_aload_n hx hb dX10_leads_24 rfl (lv_at hl 0 rfl) ?_
        refine lv_iload_n hx hb dX10_leads_25 rfl (lv_at hl 1 rfl) ?_
        refine M_V ⟨hx, hb, hml, hown, hts⟩ (m_X10_shadeOfE l dC dI sa g h0 b i a ck _ hc30 hwt) (cwV 1 hts gX10_leads_X10_shadeOf rfl rfl rfl (by decide +kernel) ⟨(by first | exact Nat.le_of_ble_eq_true rfl | (simp only [rm_X10_shadeOfE, rm_X10_leadsX]; omega)), (by first | exact Nat.le_of_ble_eq_true rfl | (simp only [rm_X10_shadeOfE, rm_X10_leadsX]; omega))⟩) hP hD hK hS hA hev rfl rfl rfl rfl hl.1 rfl (Nat.le_of_ble_eq_true rfl) dX10_leads_26 ⟨(by first | exact Nat.le_of_ble_eq_true rfl | (simp only [rm_X10_leadsX]; omega)), (by first | exact Nat.le_of_ble_eq_true rfl | (simp only [rm_X10_leadsX]; omega))⟩ (fun r u H locs hw hP hD hS => ?_)
        have hw : (∃ z : Int32, r = some (.int z) ∧ (z = ((a 15) ck.toNatClampNeg) / ((a 13) ck.toNatClampNeg))) ∧ (True) := hw
        obtain ⟨⟨z_61, rfl, hz_z_61⟩, hw_60⟩ := hw
        have hP : va_P (dC, dI) vwCl (mw g h0 b i a) _ := hP
        have hD : va_D _ (mw g h0 b i a) := hD
        refine W.eq (g2 := F0 m 29 ls [.int z_61]) rfl ?_
        refine lv_iload hx hb dX10_leads_29 (lv_at hl 5 rfl) ?_
        refine lv_icmp_gt (tgt := 38) hx hb dX10_leads_31 (by decide) (fun c_62 => ?_) (fun c_62 => ?_)
        · have nc_62 := lt_i c_62
          refine lv_iconst (v := 0) hx hb dX10_leads_38 (by decide) ?_
          exact M_z hx hb hr rfl hlocks ((a 4), (a 5), (a 6), (a 7), (a 14), (a 15), (a 47), (a 48), (a 49), (a 50)) hP hD hK hS ⟨Or.inl ⟨rfl, (fun h9 => by rw [lj0 hd hmy h3 c_1] at h9; have h8 := ldR_z.mp h9; exact le_nlt h8.2.2 (by rw [← hz_z_61]; exact c_62))⟩, ⟨rfl, rfl, rfl, rfl, rfl, rfl, (fun _ _ => rfl)⟩⟩ (by first | exact Nat.le_of_ble_eq_true rfl | (simp only [rm_X10_leadsX]; omega)) (by first | exact Nat.le_of_ble_eq_true rfl | (simp only [rm_X10_leadsX]; omega)) dX10_leads_39
        · have nc_62 := nlt_i c_62
          refine lv_iconst (v := 1) hx hb dX10_leads_34 (by decide) ?_
          refine lv_goto (tgt := 39) hx hb dX10_leads_35 (by decide) ?_
          exact M_z hx hb hr rfl hlocks ((a 4), (a 5), (a 6), (a 7), (a 14), (a 15), (a 47), (a 48), (a 49), (a 50)) hP hD hK hS ⟨Or.inr ⟨rfl, (by rw [lj0 hd hmy h3 c_1]; exact ldR_z.mpr ⟨ez_55.symm.trans c_56, (by rw [← hz_z_58]; exact nlt_le c_59), (by rw [← hz_z_61]; exact nlt_le c_62)⟩)⟩, ⟨rfl, rfl, rfl, rfl, rfl, rfl, (fun _ _ => rfl)⟩⟩ (by first | exact Nat.le_of_ble_eq_true rfl | (simp only [rm_X10_leadsX]; omega)) (by first | exact Nat.le_of_ble_eq_true rfl | (simp only [rm_X10_leadsX]; omega)) dX10_leads_39

theorem X10_leadsX_all (l : Launch) (dC : Nat → ClassId) (dI : Nat → Nat → Nat) (sa : Nat → Nat) (g : Nat → Nat) (h0 : Nat) (b : Nat → Nat) : ∀ (j d : Nat), ∀ (i : Nat → Int32) (a : Nat → Nat → Int32) (ck : Int32) (de : Int32) (my : Int32) (lw : Int32) (hg : Int32) (sz : Nat) (hd : de = nI d) (hmy : my = nI (d + j)) (h3 : d + j ≤ 3) (hc30 : vp_in ck 30) (hwt : 1 ≤ ((a 13) ck.toNatClampNeg).toInt ∧ ((a 13) ck.toNatClampNeg).toInt ≤ 50), CT l dC dI sa yX10_leads wsX10_leads (rm_X10_leadsX j d) [.ref h0, .int ck, .int de, .int my, .int lw, .int hg] (mw g h0 b i a) (tyM g) sz (fun (r : Option Value) (u : (Nat → Int32) × (Nat → Int32) × (Nat → Int32) × (Nat → Int32) × (Nat → Int32) × (Nat → Int32) × (Nat → Int32) × (Nat → Int32) × (Nat → Int32) × (Nat → Int32)) => match u with | (y4, y5, y6, y7, y14, y15, y47, y48, y49, y50) => ((r = some (.int 0) ∧ (¬ ldR j (a 4) (a 5) (a 6) (a 7) (a 13) (a 14) (a 15) ck.toNatClampNeg lw hg)) ∨ (r = some (.int 1) ∧ (ldR j (a 4) (a 5) (a 6) (a 7) (a 13) (a 14) (a 15) ck.toNatClampNeg lw hg))) ∧ (y4 = (a 4) ∧ y5 = (a 5) ∧ y6 = (a 6) ∧ y7 = (a 7) ∧ y14 = (a 14) ∧ y15 = (a 15) ∧ ∀ x9 : Nat, x9 < 26 * d → y50 x9 = (a 50) x9)) (fun (u : (Nat → Int32) × (Nat → Int32) × (Nat → Int32) × (Nat → Int32) × (Nat → Int32) × (Nat → Int32) × (Nat → Int32) × (Nat → Int32) × (Nat → Int32) × (Nat → Int32)) => match u with | (y4, y5, y6, y7, y14, y15, y47, y48, y49, y50) => mw g h0 b i (va_up (va_up (va_up (va_up (va_up (va_up (va_up (va_up (va_up (va_up a 4 y4) 5 y5) 6 y6) 7 y7) 14 y14) 15 y15) 47 y47) 48 y48) 49 y49) 50 y50)) (fun _ => []) 0 0 := by
  intro j
  induction j with
  | zero => exact fun d i a ck de my lw hg sz hd hmy h3 hc hw => m_X10_leadsX l dC dI sa g h0 b 0 d i a ck de my lw hg sz hd hmy h3 hc hw (fun j' d' h => absurd h (by omega))
  | succ j ih =>
    exact fun d i a ck de my lw hg sz hd hmy h3 hc hw => m_X10_leadsX l dC dI sa g h0 b (j + 1) d i a ck de my lw hg sz hd hmy h3 hc hw (fun j' d' h => by
      obtain rfl : j = j' := by omega
      exact ih d')

