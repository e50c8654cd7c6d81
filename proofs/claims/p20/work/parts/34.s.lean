/-- a loop of the runner: what holds, how it goes on, how it has ended -/
noncomputable def LPx (P0 go : AS → Prop) (fi : Int32 → AS → Prop) (oc : Int32) (n : Nat) : Prop := ∃ s1 : AS, P0 s1 ∧ (oc = 0 → go s1 ∧ ((s1.1 39).toInt - (s1.1 40).toInt).toNat + 1 < n) ∧ (¬ oc = 0 → ∃ e : Int32, oc = cO e ∧ fi e s1) ∧ 0 < n
theorem LPx.z {P0 go : AS → Prop} {fi : Int32 → AS → Prop} {oc : Int32} (h : LPx P0 go fi oc 0) : False := by
  obtain ⟨-, -, -, -, h⟩ := h
  omega
theorem LPm {s1 s2 : AS} {n : Nat} (h : ((s1.1 39).toInt - (s1.1 40).toInt).toNat + 1 < n + 1) (h1 : (s1.1 40).toInt + 1 ≤ (s2.1 40).toInt) (h2 : s2.1 39 = s1.1 39) (h3 : (s2.1 40).toInt ≤ (s2.1 39).toInt) : ((s2.1 39).toInt - (s2.1 40).toInt).toNat + 1 < n := by
  rw [h2] at h3 ⊢
  omega
theorem lk.V {V : Nat → Prop} {dp : Nat → Nat} {sA : AS} {d : Nat} {x : Int32} (hL : LVS V dp sA) (h : lk V dp d x) : lkV V x := by
  rcases h with h | ⟨q, h1, h2, -⟩
  · exact Or.inl h
  · exact Or.inr ⟨q, h1, h2, (hL q h2).1⟩
theorem lkr_n {ad : Nat → Nat} {x : Int32} (h : Value.null = lkr ad x) : x = -1 := by
  unfold lkr at h
  by_cases ck : x = -1
  · exact ck
  · rw [if_neg ck] at h; cases h
theorem lkr_r {ad : Nat → Nat} {x : Int32} {b : Nat} (h : Value.ref b = lkr ad x) : ¬ x = -1 ∧ b = ad x.toNatClampNeg := by
  unfold lkr at h
  by_cases ck : x = -1
  · rw [if_pos ck] at h; cases h
  · rw [if_neg ck] at h; cases h; exact ⟨ck, rfl⟩
theorem lk.nd {V : Nat → Prop} {dp : Nat → Nat} {sA : AS} {d : Nat} {x : Int32} (hL : LVS V dp sA) (h : lk V dp d x) (hx : ¬ x = -1) : V x.toNatClampNeg ∧ dp x.toNatClampNeg = d := by
  rcases h with h | ⟨q, h1, h2, h3⟩
  · exact absurd h hx
  · have := (hL q h2).1
    rw [h1, nI_clamp (by omega)]
    exact ⟨h2, h3⟩
theorem kd_7 {x : Int32} (h : 0 ≤ x.toInt ∧ x.toInt ≤ 11) (h7 : ¬ x < 7) : 7 ≤ x.toInt := by
  rw [Int32.lt_iff_toInt_lt] at h7
  have : (7 : Int32).toInt = 7 := by decide
  omega
theorem BR.inv {B : Int} {V : Nat → Prop} {k cq : Nat} {s : AS} {u : Int32 × AS} (h : BR k cq s u) (hB : B ≤ 10000000) (hI : IV B s) (hN : NV V s) (hq : (cq : Int) < (s.1 12).toInt) (hk : V k) : OKR B s u := by
  have row : ∀ (j : Nat) (s1 : AS) (w : Int32 × AS), (j = 31 ∨ j = 32 ∨ j = 33) → OKR B s (0, s1) → EvR 0 (s1.2 j k) 0 cq s1 w → OKR B s w := fun j s1 w hj h1 h2 =>
    (h2.inv hB h1.1 (hN.fx h1.2.1) (by rw [h1.2.1.2.2.1]; exact hq) (fun _ => ((hN.fx h1.2.1) k hk).2 j hj) (fun e => absurd rfl e)).tr h1.2.1 h1.2.2.2
  have h0 : OKR B s (0, s) := ⟨hI, FX.rf, okc 0 (by decide), Int.le_refl _⟩
  have st : ∀ w : Int32 × AS, OKR B s w → OKR B s (0, w.2) := fun w hw => ⟨hw.1, hw.2.1, okc 0 (by decide), hw.2.2.2⟩
  rcases h with ⟨-, h1⟩ | ⟨-, h1⟩ | ⟨-, h1⟩ | ⟨-, a, h1, h2⟩ | ⟨-, a, h1, h2⟩
  · exact h1.inv hB hI hN hq (fun e => absurd e (by decide)) (fun _ => hk)
  · exact h1.inv hB hI hN hq (fun e => absurd e (by decide)) (fun _ => hk)
  · by_cases g : hdA s k cq
    · rw [if_pos g] at h1; exact row 31 s u (Or.inl rfl) h0 h1
    · rw [if_neg g] at h1; exact row 32 s u (Or.inr (Or.inl rfl)) h0 h1
  · have q := row 31 s a (Or.inl rfl) h0 h1
    rcases h2 with ⟨-, rfl⟩ | ⟨-, h2⟩
    · exact q
    · exact row 32 a.2 u (Or.inr (Or.inl rfl)) (st a q) h2
  · have q := row 31 s a (Or.inl rfl) h0 h1
    rcases h2 with ⟨-, rfl⟩ | ⟨-, b, h2, rfl⟩
    · exact q
    · have q2 := row 32 a.2 b (Or.inr (Or.inl rfl)) (st a q) h2
      refine ⟨q2.1, q2.2.1, ?_, q2.2.2.2⟩
      show 0 ≤ (if b.1 = 0 then a.1 else b.1).toInt ∧ (if b.1 = 0 then a.1 else b.1).toInt ≤ 1000
      split
      · exact q.2.2.1
      · exact q2.2.2.1
theorem until_g {ii li ct : Int32} {a : Nat} (h : ii = nI a) (ha : (a : Int) ≤ ct.toInt) (hc : ct.toInt ≤ li.toInt) (ck : li < ii) : False := by
  subst h
  have := Int32.toInt_lt li
  rw [Int32.lt_iff_toInt_lt, nI_toInt (by omega)] at ck
  omega

noncomputable abbrev rm_X4_doStepsS (j : Nat) (d : Nat) (x0 : Nat) (cl : Nat) (va : Nat → Nat) (B : Int) (ck : Nat) (V : Nat → Prop) (ad : Nat → Nat) (dp : Nat → Nat) (sA : AS) (x : Int32) : Room := { frames := 3 * j + 30, cells := 0, slots := 0, locals := 100 * j + 500 }
noncomputable abbrev rm_X4_doBuiltS (j : Nat) (d : Nat) (x0 : Nat) (cl : Nat) (va : Nat → Nat) (B : Int) (ck : Nat) (V : Nat → Prop) (ad : Nat → Nat) (dp : Nat → Nat) (sA : AS) (k : Nat) : Room := { frames := 3 * j + 32, cells := 0, slots := 0, locals := 100 * j + 566 }
noncomputable abbrev rm_X4_doTimesS (j : Nat) (d : Nat) (x0 : Nat) (cl : Nat) (va : Nat → Nat) (B : Int) (ck : Nat) (V : Nat → Prop) (ad : Nat → Nat) (dp : Nat → Nat) (sA : AS) (k : Nat) : Room := { frames := 3 * j + 31, cells := 0, slots := 0, locals := 100 * j + 533 }
set_option maxHeartbeats 800000 in
set_option maxRecDepth 100000 in
theorem t_X4_doTimesS (l : Launch) (dC : Nat → ClassId) (dI : Nat → Nat → Nat) (sa : Nat → Nat) (hlt : l.stackTraces = false) (g : Nat → Nat) (L : List Nat) (f : Nat → va_E) (j : Nat) (d : Nat) (x0 : Nat) (cl : Nat) (va : Nat → Nat) (B : Int) (ck : Nat) (V : Nat → Prop) (ad : Nat → Nat) (dp : Nat → Nat) (sA : AS) (k : Nat) (h0 : Nat) (o : Nat) (w : Nat) (dep : Int32) (wk : Nat) (vs : Nat) (sz : Nat) (hT : TP g L f [(h0, (0, 4, 0)), (o, (0, 5, 0)), (w, (0, 0, 0)), (wk, (0, 8, 0)), (vs, (2, g 2, 6))]) (h_wk : rd f h0 0 = .ref wk) (h_vs : rd f wk 0 = .ref vs) (hd : dep = nI d) (hdj : d + j = 9) (hSR : SR g L f (x0, wk, vs, cl, h0, va) sA) (hIV : IV B sA) (hB : B ≤ 10000000) (hc : (ck : Int) < (sA.1 12).toInt) (hcl : ra f cl ck = some w) (hTR : TRS V ad L f sA) (hLV : LVS V dp sA) (hNVs : NV V sA) (hk : V k) (ho : o = ad k) (hkl : dp k + 1 = d) (h7 : ¬ sA.2 26 k < 7) (hkd : sA.2 26 k = 7) (IHS : ∀ (L : List Nat) (f : Nat → va_E) (x0 : Nat) (cl : Nat) (va : Nat → Nat) (B : Int) (ck : Nat) (V : Nat → Prop) (ad : Nat → Nat) (dp : Nat → Nat) (sA : AS) (x : Int32) (h0 : Nat) (fs : Value) (w : Nat) (dep : Int32) (wk : Nat) (vs : Nat) (sz : Nat) (hT : TP g L f [(h0, (0, 4, 0)), (w, (0, 0, 0)), (wk, (0, 8, 0)), (vs, (2, g 2, 6))]) (hn_fs : okv L f (2, 0, 5, 0) fs) (h_wk : rd f h0 0 = .ref wk) (h_vs : rd f wk 0 = .ref vs) (hd : dep = nI d) (hSR : SR g L f (x0, wk, vs, cl, h0, va) sA) (hIV : IV B sA) (hB : B ≤ 10000000) (hc : (ck : Int) < (sA.1 12).toInt) (hcl : ra f cl ck = some w) (hTR : TRS V ad L f sA) (hLV : LVS V dp sA) (hNVs : NV V sA) (hfs : fs = lkr ad x) (hlk : lk V dp d x) (hd8 : d ≤ 8), KC l dC dI sa g yX4_doSteps wsX4_doSteps (rm_X4_doStepsS j d x0 cl va B ck V ad dp sA x) [.ref h0, fs, .ref w, .int dep] L f sz (fun r L' f' => (∃ z : Int32, r = some (.int z)) ∧ Fr [(0, 2), (0, 3), (0, 6), (0, 7), (7, 1), (7, 2), (7, 3), (7, 4), (7, 5), (7, 6), (7, 7), (8, 1), (8, 2), (4, 4), (4, 5), (4, 6), (4, 7)] L f f' ∧ (∃ u : Int32 × AS, EvR 0 x 0 ck sA u ∧ r = some (.int (cO u.1)) ∧ SR g L' f' (x0, wk, vs, cl, h0, va) u.2)) 0 0) : KC l dC dI sa g yX4_doTimes wsX4_doTimes (rm_X4_doTimesS j d x0 cl va B ck V ad dp sA k) [.ref h0, .ref o, .ref w, .int dep] L f sz (fun r L' f' => (∃ z : Int32, r = some (.int z)) ∧ Fr [(0, 2), (0, 3), (0, 6), (0, 7), (7, 1), (7, 2), (7, 3), (7, 4), (7, 5), (7, 6), (7, 7), (8, 1), (8, 2), (4, 4), (4, 5), (4, 6), (4, 7)] L f f' ∧ (∃ u : Int32 × AS, EvR 2 0 k ck sA u ∧ r = some (.int (cO u.1)) ∧ SR g L' f' (x0, wk, vs, cl, h0, va) u.2)) 0 0 := by
  refine CT.start (cc := cX4_doTimes) (maxL := 6) (ret := (some .int)) (by decide) rfl (Nat.le_of_ble_eq_true rfl) ?_
  intro p e s m below meth c ls hst hP hK hD hev hS hl
  obtain ⟨hx, hb, hr, hml, hts, hown, hlocks, hin⟩ := hst
  have hown : s.vm.findClass RX4 = some m.cls := hown
  have hin : meth.name = yX4_doTimes.name := hin
  have hA : ∀ q : Nat, s.heap.size ≤ q → va_A (va_pl L f) s.heap.size q := fun _ h => Or.inr h
  have hE : Ext L f L f := Ext.rf
  have hF : Fr [(0, 2), (0, 3), (0, 6), (0, 7), (7, 1), (7, 2), (7, 3), (7, 4), (7, 5), (7, 6), (7, 7), (8, 1), (8, 2), (4, 4), (4, 5), (4, 6), (4, 7)] L f f := Fr.rf
  have hl : lv_has ls 6 [(0, .ref h0), (1, .ref o), (2, .ref w), (3, .int dep)] := hl
  have hT0 := hT
  have hSN : SN f ad sA o k := by rw [ho]; exact (hTR k hk).2
  have hd8 : d ≤ 8 := by have h9 := (hLV k hk).2.2.1 (kd_7 (hNVs k hk).1.1 h7); omega
  refine lv_iconst (v := 0) hx hb dX4_doTimes_0 (by decide) ?_
  refine lv_istore (lv' := [(4, .int 0), (0, .ref h0), (1, .ref o), (2, .ref w), (3, .int dep)]) hx hb dX4_doTimes_1 hl (by decide) rfl (fun ls hl => ?_)
  refine lv_iconst (v := 0) hx hb dX4_doTimes_3 (by decide) ?_
  refine lv_istore (lv' := [(5, .int 0), (4, .int 0), (0, .ref h0), (1, .ref o), (2, .ref w), (3, .int dep)]) hx hb dX4_doTimes_4 hl (by decide) rfl (fun ls hl => ?_)
  have lp : ∀ (n : Nat) (oc : Int32) (ii : Int32) (L1 : List Nat) (f1 : Nat → va_E) (H : Heap) (locs : List Loc) (ls : Array Slot), (LPx (fun s1 => SR g L1 f1 (x0, wk, vs, cl, h0, va) s1 ∧ IV B s1 ∧ FX sA s1) (fun s1 => ∀ u, EvR 2 ii k ck s1 u → EvR 2 0 k ck sA u) (fun e s1 => EvR 2 0 k ck sA (e, s1)) oc n) → va_P (dC, dI) vwCl (va_pl L1 f1) H → va_D (va_A (va_pl L f) s.heap.size) (va_pl L1 f1) → va_S (va_A (va_pl L f) s.heap.size) s.heap H locs → TP g L1 f1 [(h0, (0, 4, 0)), (o, (0, 5, 0)), (w, (0, 0, 0)), (wk, (0, 8, 0)), (vs, (2, g 2, 6))] → Ext L f L1 f1 → Fr [(0, 2), (0, 3), (0, 6), (0, 7), (7, 1), (7, 2), (7, 3), (7, 4), (7, 5), (7, 6), (7, 7), (8, 1), (8, 2), (4, 4), (4, 5), (4, 6), (4, 7)] L f f1 → lv_has ls 6 [(4, .int oc), (5, .int ii), (0, .ref h0), (1, .ref o), (2, .ref w), (3, .int dep)] → W p l e (rm_X4_doTimesS j d x0 cl va B ck V ad dp sA k) s m [.ref h0, .ref o, .ref w, .int dep].toArray below meth c H locs 0 0 (MQ below (Qg (kpost g L f (fun r L' f' => (∃ z : Int32, r = some (.int z)) ∧ Fr [(0, 2), (0, 3), (0, 6), (0, 7), (7, 1), (7, 2), (7, 3), (7, 4), (7, 5), (7, 6), (7, 7), (8, 1), (8, 2), (4, 4), (4, 5), (4, 6), (4, 7)] L f f' ∧ (∃ u : Int32 × AS, EvR 2 0 k ck sA u ∧ r = some (.int (cO u.1)) ∧ SR g L' f' (x0, wk, vs, cl, h0, va) u.2))) (fun (u : PL) t => QW dC dI (va_A (va_pl L f) s.heap.size) (va_pl u.1 u.2) [] t) (va_A (va_pl L f) s.heap.size)) [.ref h0, .ref o, .ref w, .int dep].toArray s (0) (0) (va_A (va_pl L f) s.heap.size)) (F0 m 6 ls []) := by
    intro n
    induction n with
    | zero => intro oc ii L1 f1 H locs ls hm  hP hD hS hT hE hF hl; exact (LPx.z hm).elim
    | succ n ih =>
      intro oc ii L1 f1 H locs ls hm  hP hD hS hT hE hF hl
      refine lv_iload hx hb dX4_doTimes_6 (lv_at hl 1 rfl) ?_
      obtain ⟨s1, ⟨hs1, hi1, hfx1⟩, hgo, hfi, hn0⟩ := hm
      refine lv_aload_n hx hb dX4_doTimes_8 rfl (lv_at hl 3 rfl) ?_
      refine T_get (ci := 5) (C := RX5) (T := TX5) (N := 8) (t := tI) hx hb hts inw_X4_doTimes_5 hown hK hP hT 1 rfl rfl 2 (by decide) (hts (.fieldLink RX4 76 "VatHouse$Step" "number" "I") (List.mem_of_getElem? (i := 1) (by exact rfl))) (fun _ h9 => h9) rfl dX4_doTimes_9 (fun v_3 hv_1 hr_2 => ?_)
      obtain rfl : v_3 = .int (sA.2 27 k) := hr_2.symm.trans ((hF.1 o (hT0.at 1 rfl).1 5 (hT0.at 1 rfl).2 2 (by decide)).trans (hSN.2.2.1 (Or.inr (Or.inr (Or.inl hkd)))))
      refine lv_icmp_ge (tgt := 49) hx hb dX4_doTimes_12 (by decide) (fun c_4 => ?_) (fun c_4 => ?_)
      · refine lv_iload hx hb dX4_doTimes_49 (lv_at hl 0 rfl) ?_
        exact K_i hx hb hr hlocks hP hD hK hS hT hE ⟨⟨_, rfl⟩, hF, (by by_cases h9 : oc = 0; (exact ⟨(0, s1), (hgo h9).1 _ (EvR.t0 (by rw [(congrFun (FX.nt hfx1 27 (by omega)) k)]; exact le_nlt c_4)), by rw [h9, cO_0], hs1⟩); (obtain ⟨e9, he1, he2⟩ := hfi h9; exact ⟨(e9, s1), he2, by rw [he1], hs1⟩))⟩ (by first | exact Nat.le_of_ble_eq_true rfl | (simp only [rm_X4_doTimesS]; omega) | omega) (by first | exact Nat.le_of_ble_eq_true rfl | (simp only [rm_X4_doTimesS]; omega) | omega) dX4_doTimes_51
      · refine lv_iload hx hb dX4_doTimes_15 (lv_at hl 0 rfl) ?_
        refine lv_if_ne (tgt := 49) hx hb dX4_doTimes_17 (by decide) (fun c_5 => ?_) (fun c_5 => ?_)
        · refine lv_iload hx hb dX4_doTimes_49 (lv_at hl 0 rfl) ?_
          exact K_i hx hb hr hlocks hP hD hK hS hT hE ⟨⟨_, rfl⟩, hF, (by by_cases h9 : oc = 0; (exact ⟨(0, s1), absurd h9 c_5, by rw [h9, cO_0], hs1⟩); (obtain ⟨e9, he1, he2⟩ := hfi h9; exact ⟨(e9, s1), he2, by rw [he1], hs1⟩))⟩ (by first | exact Nat.le_of_ble_eq_true rfl | (simp only [rm_X4_doTimesS]; omega) | omega) (by first | exact Nat.le_of_ble_eq_true rfl | (simp only [rm_X4_doTimesS]; omega) | omega) dX4_doTimes_51
        · refine lv_aload_n hx hb dX4_doTimes_20 rfl (lv_at hl 2 rfl) ?_
          refine K_V ⟨hx, hb, hml, hown, hts⟩ (t_X4_mayCountS l dC dI sa hlt g _ _ x0 cl va s1 h0 wk vs _ (hT.sub [0, 3, 4] rfl)  ((hF.1 h0 (hT0.at 0 rfl).1 4 (hT0.at 0 rfl).2 0 (by decide)).trans h_wk) ((hF.1 wk (hT0.at 3 rfl).1 8 (hT0.at 3 rfl).2 0 (by decide)).trans h_vs) hs1 hi1.2.2.2.2.2.1) (cwV 0 hts gX4_doTimes_X4_mayCount rfl rfl rfl (by decide +kernel) ⟨(by first | exact Nat.le_of_ble_eq_true rfl | (simp only [rm_X4_mayCountS, rm_X4_doTimesS]; omega)), (by first | exact Nat.le_of_ble_eq_true rfl | (simp only [rm_X4_mayCountS, rm_X4_doTimesS]; omega))⟩) hP hD hK hS hA hev hT 0 4 rfl rfl rfl rfl hl.1 rfl (Nat.le_of_ble_eq_true rfl) dX4_doTimes_21 ⟨(by first | exact Nat.le_of_ble_eq_true rfl | (simp only [rm_X4_doTimesS]; omega) | omega), (by first | exact Nat.le_of_ble_eq_true rfl | (simp only [rm_X4_doTimesS]; omega) | omega)⟩ (fun r L_6 f_7 H locs hw_8 hP hD hS hT hE1 => ?_)
          have hF := Fr.call hF hE hw_8.2 (by decide)
          have hE := hE.tr hE1
          obtain ⟨⟨rfl, hz2_9⟩ | ⟨rfl, hz2_9⟩, hw_8⟩ := hw_8
          · obtain ⟨hct_10, hs_11⟩ := hz2_9
            refine W.eq (g2 := F0 m 24 ls [.int 0]) rfl ?_
            refine lv_if_eq (tgt := 40) hx hb dX4_doTimes_24 (by decide) (fun c_12 => ?_) (fun c_12 => ?_)
            rotate_left
            · exact absurd c_12 (by decide)
            refine lv_iconst (v := (-1)) hx hb dX4_doTimes_40 (by decide) ?_
            refine lv_istore (lv' := [(4, .int (-1)), (5, .int ii), (0, .ref h0), (1, .ref o), (2, .ref w), (3, .int dep)]) hx hb dX4_doTimes_41 hl (by decide) rfl (fun ls hl => ?_)
            refine lv_iinc (v := (ii + 1)) (lv' := [(5, .int (ii + 1)), (4, .int (-1)), (0, .ref h0), (1, .ref o), (2, .ref w), (3, .int dep)]) hx hb dX4_doTimes_43 hl (k := 1) rfl rfl (by decide) rfl (fun ls hl => ?_)
            refine lv_goto (tgt := 6) hx hb dX4_doTimes_46 (by decide) ?_
            exact ih (-1) (ii + 1) _ _ _ _ _ (⟨s1, ⟨hs_11, hi1, hfx1⟩, fun h9 => absurd h9 (by decide), fun _ => ⟨1000, cO_m.symm, (hgo c_5).1 _ (EvR.tl (by rw [(congrFun (FX.nt hfx1 27 (by omega)) k)]; exact nle_lt c_4) hct_10)⟩, by have h8 := (hgo c_5).2; omega⟩)  hP hD hS (hT.sub [0, 1, 2, 3, 4] rfl) hE hF (lv_sub hl [1, 0, 2, 3, 4, 5] rfl)
          · obtain ⟨hct_13, hs_14⟩ := hz2_9
            have hiv_15 := IV.co hi1 hct_13
            refine W.eq (g2 := F0 m 24 ls [.int 1]) rfl ?_
            refine lv_if_eq (tgt := 40) hx hb dX4_doTimes_24 (by decide) (fun c_16 => ?_) (fun c_16 => ?_)
            · exact absurd c_16 (by decide)
            refine lv_aload_n hx hb dX4_doTimes_27 rfl (lv_at hl 2 rfl) ?_
            refine lv_aload_n hx hb dX4_doTimes_28 rfl (lv_at hl 3 rfl) ?_
            refine T_get (ci := 5) (C := RX5) (T := TX5) (N := 8) (t := (2, 0, 5, 0)) hx hb hts inw_X4_doTimes_5 hown hK hP hT 1 rfl rfl 5 (by decide) (hts (.fieldLink RX4 114 "VatHouse$Step" "block" "LVatHouse$Step;") (List.mem_of_getElem? (i := 2) (by exact rfl))) (fun _ h9 => h9) rfl dX4_doTimes_29 (fun v_19 hv_17 hr_18 => ?_)
            rcases hv_17 with rfl | ⟨b_20, rfl, hb9⟩
            · refine lv_aload_n hx hb dX4_doTimes_32 rfl (lv_at hl 4 rfl) ?_
              refine lv_iload_n hx hb dX4_doTimes_33 rfl (lv_at hl 5 rfl) ?_
              refine K_V ⟨hx, hb, hml, hown, hts⟩ (IHS _ _ x0 cl va B ck V ad dp (coA s1) (sA.2 31 k) h0 .null w dep wk vs _ (hT.sub [0, 2, 3, 4] rfl) (Or.inl rfl) ((hF.1 h0 (hT0.at 0 rfl).1 4 (hT0.at 0 rfl).2 0 (by decide)).trans h_wk) ((hF.1 wk (hT0.at 3 rfl).1 8 (hT0.at 3 rfl).2 0 (by decide)).trans h_vs) hd hs_14 hiv_15 hB (by rw [(FX.tr hfx1 FX.co).2.2.1]; exact hc) (by rw [ra_eq (hF.2 cl hSR.1.1.2.2.2.1.1 1 _ _ hSR.1.1.2.2.2.1.2 (by decide))]; exact hcl) (hTR.go hE hF (by decide) (FX.nt (FX.tr hfx1 FX.co))) (hLV.go (FX.nt (FX.tr hfx1 FX.co))) (hNVs.fx (FX.tr hfx1 FX.co)) (hr_18.symm.trans ((hF.1 o (hT0.at 1 rfl).1 5 (hT0.at 1 rfl).2 5 (by decide)).trans hSN.2.2.2.2.2.1)) (hkl ▸ (hLV k hk).2.2.2.1) (hd8)) (cwV 3 hts gX4_doTimes_X4_doSteps rfl rfl rfl (by decide +kernel) ⟨(by first | exact Nat.le_of_ble_eq_true rfl | (simp only [rm_X4_doStepsS, rm_X4_doTimesS]; omega)), (by first | exact Nat.le_of_ble_eq_true rfl | (simp only [rm_X4_doStepsS, rm_X4_doTimesS]; omega))⟩) hP hD hK hS hA hev hT 0 4 rfl rfl rfl rfl hl.1 rfl (Nat.le_of_ble_eq_true rfl) dX4_doTimes_34 ⟨(by first | exact Nat.le_of_ble_eq_true rfl | (simp only [rm_X4_doTimesS]; omega) | omega), (by first | exact Nat.le_of_ble_eq_true rfl | (simp only [rm_X4_doTimesS]; omega) | omega)⟩ (fun r L_21 f_22 H locs hw_23 hP hD hS hT hE1 => ?_)
              have hF := Fr.call hF hE hw_23.2.1 (by decide)
              have hE := hE.tr hE1
              obtain ⟨⟨z_24, rfl⟩, hw_23⟩ := hw_23
              obtain ⟨hfr_25, hex_26⟩ := hw_23
              obtain ⟨u_27, hev_28, hrr_29, hs_30⟩ := hex_26
              have hok_31 := EvR.inv (B := B) (V := V) hev_28 hB hiv_15 (hNVs.fx (FX.tr hfx1 FX.co)) (by rw [(FX.tr hfx1 FX.co).2.2.1]; exact hc) (fun _ => lk.V hLV (hkl ▸ (hLV k hk).2.2.2.1)) (fun e9 => absurd rfl e9)
              have hz_24 : z_24 = cO u_27.1 := sv hrr_29
              have hfx_32 := FX.tr (FX.tr hfx1 FX.co) hok_31.2.1
              have hiv_33 := hok_31.1
              refine W.eq (g2 := F0 m 37 ls [.int z_24]) rfl ?_
              refine lv_goto (tgt := 41) hx hb dX4_doTimes_37 (by decide) ?_
              refine lv_istore (lv' := [(4, .int z_24), (5, .int ii), (0, .ref h0), (1, .ref o), (2, .ref w), (3, .int dep)]) hx hb dX4_doTimes_41 hl (by decide) rfl (fun ls hl => ?_)
              refine lv_iinc (v := (ii + 1)) (lv' := [(5, .int (ii + 1)), (4, .int z_24), (0, .ref h0), (1, .ref o), (2, .ref w), (3, .int dep)]) hx hb dX4_doTimes_43 hl (k := 1) rfl rfl (by decide) rfl (fun ls hl => ?_)
              refine lv_goto (tgt := 6) hx hb dX4_doTimes_46 (by decide) ?_
              exact ih z_24 (ii + 1) _ _ _ _ _ (⟨u_27.2, ⟨hs_30, hiv_33, hfx_32⟩, fun h9 => ⟨fun w9 h8 => (hgo c_5).1 _ (EvR.tg (by rw [(congrFun (FX.nt hfx1 27 (by omega)) k)]; exact nle_lt c_4) hct_13 (by rw [(congrFun (FX.nt hfx1 31 (by omega)) k)]; exact hev_28) ((cO_z hok_31.2.2.1).1.mp (hz_24 ▸ h9)) h8), LPm (hgo c_5).2 (by have h1 := co_le hi1 hct_13; have h2 := hok_31.2.2.2; omega) (hok_31.2.1.2.2.2.1.trans rfl) hiv_33.2.2.2.2.2.1⟩, fun h9 => ⟨u_27.1, hz_24, (hgo c_5).1 _ (EvR.te (by rw [(congrFun (FX.nt hfx1 27 (by omega)) k)]; exact nle_lt c_4) hct_13 (by rw [(congrFun (FX.nt hfx1 31 (by omega)) k)]; exact hev_28) (fun e9 => h9 (by rw [hz_24]; exact (cO_z hok_31.2.2.1).1.mpr e9)))⟩, by have h8 := (hgo c_5).2; omega⟩)  hP hD hS (hT.sub [0, 1, 2, 3, 4] rfl) hE hF (lv_sub hl [1, 0, 2, 3, 4, 5] rfl)
            · have hT := hT.add hb9
              refine lv_aload_n hx hb dX4_doTimes_32 rfl (lv_at hl 4 rfl) ?_
              refine lv_iload_n hx hb dX4_doTimes_33 rfl (lv_at hl 5 rfl) ?_
              refine K_V ⟨hx, hb, hml, hown, hts⟩ (IHS _ _ x0 cl va B ck V ad dp (coA s1) (sA.2 31 k) h0 (.ref b_20) w dep wk vs _ (hT.sub [1, 3, 4, 5] rfl) (Or.inr ⟨_, rfl, hT.at 0 rfl⟩) ((hF.1 h0 (hT0.at 0 rfl).1 4 (hT0.at 0 rfl).2 0 (by decide)).trans h_wk) ((hF.1 wk (hT0.at 3 rfl).1 8 (hT0.at 3 rfl).2 0 (by decide)).trans h_vs) hd hs_14 hiv_15 hB (by rw [(FX.tr hfx1 FX.co).2.2.1]; exact hc) (by rw [ra_eq (hF.2 cl hSR.1.1.2.2.2.1.1 1 _ _ hSR.1.1.2.2.2.1.2 (by decide))]; exact hcl) (hTR.go hE hF (by decide) (FX.nt (FX.tr hfx1 FX.co))) (hLV.go (FX.nt (FX.tr hfx1 FX.co))) (hNVs.fx (FX.tr hfx1 FX.co)) (hr_18.symm.trans ((hF.1 o (hT0.at 1 rfl).1 5 (hT0.at 1 rfl).2 5 (by decide)).trans hSN.2.2.2.2.2.1)) (hkl ▸ (hLV k hk).2.2.2.1) (hd8)) (cwV 3 hts gX4_doTimes_X4_doSteps rfl rfl rfl (by decide +kernel) ⟨(by first | exact Nat.le_of_ble_eq_true rfl | (simp only [rm_X4_doStepsS, rm_X4_doTimesS]; omega)), (by first | exact Nat.le_of_ble_eq_true rfl | (simp only [rm_X4_doStepsS, rm_X4_doTimesS]; omega))⟩) hP hD hK hS hA hev hT 1 4 rfl rfl rfl rfl hl.1 rfl (Nat.le_of_ble_eq_true rfl) dX4_doTimes_34 ⟨(by first | exact Nat.le_of_ble_eq_true rfl | (simp only [rm_X4_doTimesS]; omega) | omega), (by first | exact Nat.le_of_ble_eq_true rfl | (simp only [rm_X4_doTimesS]; omega) | omega)⟩ (fun r L_34 f_35 H locs hw_36 hP hD hS hT hE1 => ?_)
              have hF := Fr.call hF hE hw_36.2.1 (by decide)
              have hE := hE.tr hE1
              obtain ⟨⟨z_37, rfl⟩, hw_36⟩ := hw_36
              obtain ⟨hfr_38, hex_39⟩ := hw_36
              obtain ⟨u_40, hev_41, hrr_42, hs_43⟩ := hex_39
              have hok_44 := EvR.inv (B := B) (V := V) hev_41 hB hiv_15 (hNVs.fx (FX.tr hfx1 FX.co)) (by rw [(FX.tr hfx1 FX.co).2.2.1]; exact hc) (fun _ => lk.V hLV (hkl ▸ (hLV k hk).2.2.2.1)) (fun e9 => absurd rfl e9)
              have hz_37 : z_37 = cO u_40.1 := sv hrr_42
              have hfx_45 := FX.tr (FX.tr hfx1 FX.co) hok_44.2.1
              have hiv_46 := hok_44.1
              refine W.eq (g2 := F0 m 37 ls [.int z_37]) rfl ?_
              refine lv_goto (tgt := 41) hx hb dX4_doTimes_37 (by decide) ?_
              refine lv_istore (lv' := [(4, .int z_37), (5, .int ii), (0, .ref h0), (1, .ref o), (2, .ref w), (3, .int dep)]) hx hb dX4_doTimes_41 hl (by decide) rfl (fun ls hl => ?_)
              refine lv_iinc (v := (ii + 1)) (lv' := [(5, .int (ii + 1)), (4, .int z_37), (0, .ref h0), (1, .ref o), (2, .ref w), (3, .int dep)]) hx hb dX4_doTimes_43 hl (k := 1) rfl rfl (by decide) rfl (fun ls hl => ?_)
              refine lv_goto (tgt := 6) hx hb dX4_doTimes_46 (by decide) ?_
              exact ih z_37 (ii + 1) _ _ _ _ _ (⟨u_40.2, ⟨hs_43, hiv_46, hfx_45⟩, fun h9 => ⟨fun w9 h8 => (hgo c_5).1 _ (EvR.tg (by rw [(congrFun (FX.nt hfx1 27 (by omega)) k)]; exact nle_lt c_4) hct_13 (by rw [(congrFun (FX.nt hfx1 31 (by omega)) k)]; exact hev_41) ((cO_z hok_44.2.2.1).1.mp (hz_37 ▸ h9)) h8), LPm (hgo c_5).2 (by have h1 := co_le hi1 hct_13; have h2 := hok_44.2.2.2; omega) (hok_44.2.1.2.2.2.1.trans rfl) hiv_46.2.2.2.2.2.1⟩, fun h9 => ⟨u_40.1, hz_37, (hgo c_5).1 _ (EvR.te (by rw [(congrFun (FX.nt hfx1 27 (by omega)) k)]; exact nle_lt c_4) hct_13 (by rw [(congrFun (FX.nt hfx1 31 (by omega)) k)]; exact hev_41) (fun e9 => h9 (by rw [hz_37]; exact (cO_z hok_44.2.2.1).1.mpr e9)))⟩, by have h8 := (hgo c_5).2; omega⟩)  hP hD hS (hT.sub [1, 2, 3, 4, 5] rfl) hE hF (lv_sub hl [1, 0, 2, 3, 4, 5] rfl)
  exact lp (((sA.1 39).toInt - (sA.1 40).toInt).toNat + 2) 0 0 _ _ _ _ _ (⟨sA, ⟨hSR, hIV, FX.rf⟩, fun _ => ⟨fun _ h9 => h9, by omega⟩, fun h9 => absurd rfl h9, by omega⟩)  hP hD hS (hT.sub [0, 1, 2, 3, 4] rfl) hE hF (lv_sub hl [1, 0, 2, 3, 4, 5] rfl)

noncomputable abbrev rm_X4_doUntilS (j : Nat) (d : Nat) (x0 : Nat) (cl : Nat) (va : Nat → Nat) (B : Int) (ck : Nat) (V : Nat → Prop) (ad : Nat → Nat) (dp : Nat → Nat) (sA : AS) (k : Nat) : Room := { frames := 3 * j + 31, cells := 0, slots := 0, locals := 100 * j + 533 }
set_option maxHeartbeats 800000 in
set_option maxRecDepth 100000 in
theorem t_X4_doUntilS (l : Launch) (dC : Nat → ClassId) (dI : Nat → Nat → Nat) (sa : Nat → Nat) (hlt : l.stackTraces = false) (g : Nat → Nat) (L : List Nat) (f : Nat → va_E) (j : Nat) (d : Nat) (x0 : Nat) (cl : Nat) (va : Nat → Nat) (B : Int) (ck : Nat) (V : Nat → Prop) (ad : Nat → Nat) (dp : Nat → Nat) (sA : AS) (k : Nat) (h0 : Nat) (o : Nat) (w : Nat) (dep : Int32) (wk : Nat) (vs : Nat) (sz : Nat) (hT : TP g L f [(h0, (0, 4, 0)), (o, (0, 5, 0)), (w, (0, 0, 0)), (wk, (0, 8, 0)), (vs, (2, g 2, 6))]) (h_wk : rd f h0 0 = .ref wk) (h_vs : rd f wk 0 = .ref vs) (hd : dep = nI d) (hdj : d + j = 9) (hSR : SR g L f (x0, wk, vs, cl, h0, va) sA) (hIV : IV B sA) (hB : B ≤ 10000000) (hc : (ck : Int) < (sA.1 12).toInt) (hcl : ra f cl ck = some w) (hTR : TRS V ad L f sA) (hLV : LVS V dp sA) (hNVs : NV V sA) (hk : V k) (ho : o = ad k) (hkl : dp k + 1 = d) (h7 : ¬ sA.2 26 k < 7) (hkd : sA.2 26 k = 8) (IHS : ∀ (L : List Nat) (f : Nat → va_E) (x0 : Nat) (cl : Nat) (va : Nat → Nat) (B : Int) (ck : Nat) (V : Nat → Prop) (ad : Nat → Nat) (dp : Nat → Nat) (sA : AS) (x : Int32) (h0 : Nat) (fs : Value) (w : Nat) (dep : Int32) (wk : Nat) (vs : Nat) (sz : Nat) (hT : TP g L f [(h0, (0, 4, 0)), (w, (0, 0, 0)), (wk, (0, 8, 0)), (vs, (2, g 2, 6))]) (hn_fs : okv L f (2, 0, 5, 0) fs) (h_wk : rd f h0 0 = .ref wk) (h_vs : rd f wk 0 = .ref vs) (hd : dep = nI d) (hSR : SR g L f (x0, wk, vs, cl, h0, va) sA) (hIV : IV B sA) (hB : B ≤ 10000000) (hc : (ck : Int) < (sA.1 12).toInt) (hcl : ra f cl ck = some w) (hTR : TRS V ad L f sA) (hLV : LVS V dp sA) (hNVs : NV V sA) (hfs : fs = lkr ad x) (hlk : lk V dp d x) (hd8 : d ≤ 8), KC l dC dI sa g yX4_doSteps wsX4_doSteps (rm_X4_doStepsS j d x0 cl va B ck V ad dp sA x) [.ref h0, fs, .ref w, .int dep] L f sz (fun r L' f' => (∃ z : Int32, r = some (.int z)) ∧ Fr [(0, 2), (0, 3), (0, 6), (0, 7), (7, 1), (7, 2), (7, 3), (7, 4), (7, 5), (7, 6), (7, 7), (8, 1), (8, 2), (4, 4), (4, 5), (4, 6), (4, 7)] L f f' ∧ (∃ u : Int32 × AS, EvR 0 x 0 ck sA u ∧ r = some (.int (cO u.1)) ∧ SR g L' f' (x0, wk, vs, cl, h0, va) u.2)) 0 0) : KC l dC dI sa g yX4_doUntil wsX4_doUntil (rm_X4_doUntilS j d x0 cl va B ck V ad dp sA k) [.ref h0, .ref o, .ref w, .int dep] L f sz (fun r L' f' => (∃ z : Int32, r = some (.int z)) ∧ Fr [(0, 2), (0, 3), (0, 6), (0, 7), (7, 1), (7, 2), (7, 3), (7, 4), (7, 5), (7, 6), (7, 7), (8, 1), (8, 2), (4, 4), (4, 5), (4, 6), (4, 7)] L f f' ∧ (∃ u : Int32 × AS, EvR 3 0 k ck sA u ∧ r = some (.int (cO u.1)) ∧ SR g L' f' (x0, wk, vs, cl, h0, va) u.2)) 0 0 := by
  refine CT.start (cc := cX4_doUntil) (maxL := 6) (ret := (some .int)) (by decide) rfl (Nat.le_of_ble_eq_true rfl) ?_
  intro p e s m below meth c ls hst hP hK hD hev hS hl
  obtain ⟨hx, hb, hr, hml, hts, hown, hlocks, hin⟩ := hst
  have hown : s.vm.findClass RX4 = some m.cls := hown
  have hin : meth.name = yX4_doUntil.name := hin
  have hA : ∀ q : Nat, s.heap.size ≤ q → va_A (va_pl L f) s.heap.size q := fun _ h => Or.inr h
  have hE : Ext L f L f := Ext.rf
  have hF : Fr [(0, 2), (0, 3), (0, 6), (0, 7), (7, 1), (7, 2), (7, 3), (7, 4), (7, 5), (7, 6), (7, 7), (8, 1), (8, 2), (4, 4), (4, 5), (4, 6), (4, 7)] L f f := Fr.rf
  have hl : lv_has ls 6 [(0, .ref h0), (1, .ref o), (2, .ref w), (3, .int dep)] := hl
  have hT0 := hT
  have hSN : SN f ad sA o k := by rw [ho]; exact (hTR k hk).2
  have hd8 : d ≤ 8 := by have h9 := (hLV k hk).2.2.1 (kd_7 (hNVs k hk).1.1 h7); omega
  refine lv_iconst (v := 0) hx hb dX4_doUntil_0 (by decide) ?_
  refine lv_istore (lv' := [(4, .int 0), (0, .ref h0), (1, .ref o), (2, .ref w), (3, .int dep)]) hx hb dX4_doUntil_1 hl (by decide) rfl (fun ls hl => ?_)
  refine lv_iconst (v := 0) hx hb dX4_doUntil_3 (by decide) ?_
  refine lv_istore (lv' := [(5, .int 0), (4, .int 0), (0, .ref h0), (1, .ref o), (2, .ref w), (3, .int dep)]) hx hb dX4_doUntil_4 hl (by decide) rfl (fun ls hl => ?_)
  have lp : ∀ (n : Nat) (oc : Int32) (ii : Int32) (L1 : List Nat) (f1 : Nat → va_E) (H : Heap) (locs : List Loc) (ls : Array Slot), ((∃ a : Nat, ii = nI a ∧ a ≤ 5001 ∧ ∃ k4 : Int32, rd f1 h0 4 = .int k4 ∧ (a : Int) ≤ k4.toInt) ∧ LPx (fun s1 => SR g L1 f1 (x0, wk, vs, cl, h0, va) s1 ∧ IV B s1 ∧ FX sA s1) (fun s1 => ∀ u, EvR 3 0 k ck s1 u → EvR 3 0 k ck sA u) (fun e s1 => EvR 3 0 k ck sA (e, s1)) oc n) → va_P (dC, dI) vwCl (va_pl L1 f1) H → va_D (va_A (va_pl L f) s.heap.size) (va_pl L1 f1) → va_S (va_A (va_pl L f) s.heap.size) s.heap H locs → TP g L1 f1 [(h0, (0, 4, 0)), (o, (0, 5, 0)), (w, (0, 0, 0)), (wk, (0, 8, 0)), (vs, (2, g 2, 6))] → Ext L f L1 f1 → Fr [(0, 2), (0, 3), (0, 6), (0, 7), (7, 1), (7, 2), (7, 3), (7, 4), (7, 5), (7, 6), (7, 7), (8, 1), (8, 2), (4, 4), (4, 5), (4, 6), (4, 7)] L f f1 → lv_has ls 6 [(4, .int oc), (5, .int ii), (0, .ref h0), (1, .ref o), (2, .ref w), (3, .int dep)] → W p l e (rm_X4_doUntilS j d x0 cl va B ck V ad dp sA k) s m [.ref h0, .ref o, .ref w, .int dep].toArray below meth c H locs 0 0 (MQ below (Qg (kpost g L f (fun r L' f' => (∃ z : Int32, r = some (.int z)) ∧ Fr [(0, 2), (0, 3), (0, 6), (0, 7), (7, 1), (7, 2), (7, 3), (7, 4), (7, 5), (7, 6), (7, 7), (8, 1), (8, 2), (4, 4), (4, 5), (4, 6), (4, 7)] L f f' ∧ (∃ u : Int32 × AS, EvR 3 0 k ck sA u ∧ r = some (.int (cO u.1)) ∧ SR g L' f' (x0, wk, vs, cl, h0, va) u.2))) (fun (u : PL) t => QW dC dI (va_A (va_pl L f) s.heap.size) (va_pl u.1 u.2) [] t) (va_A (va_pl L f) s.heap.size)) [.ref h0, .ref o, .ref w, .int dep].toArray s (0) (0) (va_A (va_pl L f) s.heap.size)) (F0 m 6 ls []) := by
    intro n
    induction n with
    | zero => intro oc ii L1 f1 H locs ls hm  hP hD hS hT hE hF hl; exact (LPx.z hm.2).elim
    | succ n ih =>
      intro oc ii L1 f1 H locs ls hm  hP hD hS hT hE hF hl
      refine lv_iload hx hb dX4_doUntil_6 (lv_at hl 1 rfl) ?_
      obtain ⟨⟨a, ha, ha5, k4, hk4, hak⟩, s1, ⟨hs1, hi1, hfx1⟩, hgo, hfi, hn0⟩ := hm
      obtain rfl : k4 = s1.1 40 := by have h9 := hk4.symm.trans hs1.2.2.2.2.2.2.2.2.1; injection h9
      refine lv_aload_n hx hb dX4_doUntil_8 rfl (lv_at hl 2 rfl) ?_
      refine T_get (ci := 4) (C := RX4) (T := TX4) (N := 8) (t := tI) hx hb hts inw_X4_doUntil_4 hown hK hP hT 0 rfl rfl 1 (by decide) (hts (.fieldLink RX4 19 "VatHouse$Runner" "limit" "I") (List.mem_of_getElem? (i := 1) (by exact rfl))) (fun _ h9 => h9) rfl dX4_doUntil_9 (fun v_3 hv_1 hr_2 => ?_)
      obtain rfl : v_3 = .int (s1.1 39) := hr_2.symm.trans hs1.2.2.2.2.2.1
      refine lv_icmp_gt (tgt := 60) hx hb dX4_doUntil_12 (by decide) (fun c_4 => ?_) (fun c_4 => ?_)
      · refine lv_iload hx hb dX4_doUntil_60 (lv_at hl 0 rfl) ?_
        exact K_i hx hb hr hlocks hP hD hK hS hT hE ⟨⟨_, rfl⟩, hF, (until_g ha hak hi1.2.2.2.2.2.1 c_4).elim⟩ (by first | exact Nat.le_of_ble_eq_true rfl | (simp only [rm_X4_doUntilS]; omega) | omega) (by first | exact Nat.le_of_ble_eq_true rfl | (simp only [rm_X4_doUntilS]; omega) | omega) dX4_doUntil_62
      · refine lv_iload hx hb dX4_doUntil_15 (lv_at hl 0 rfl) ?_
        refine lv_if_ne (tgt := 60) hx hb dX4_doUntil_17 (by decide) (fun c_5 => ?_) (fun c_5 => ?_)
        · refine lv_iload hx hb dX4_doUntil_60 (lv_at hl 0 rfl) ?_
          exact K_i hx hb hr hlocks hP hD hK hS hT hE ⟨⟨_, rfl⟩, hF, (by by_cases h9 : oc = 0; (exact ⟨(0, s1), absurd h9 c_5, by rw [h9, cO_0], hs1⟩); (obtain ⟨e9, he1, he2⟩ := hfi h9; exact ⟨(e9, s1), he2, by rw [he1], hs1⟩))⟩ (by first | exact Nat.le_of_ble_eq_true rfl | (simp only [rm_X4_doUntilS]; omega) | omega) (by first | exact Nat.le_of_ble_eq_true rfl | (simp only [rm_X4_doUntilS]; omega) | omega) dX4_doUntil_62
        · refine lv_aload_n hx hb dX4_doUntil_20 rfl (lv_at hl 2 rfl) ?_
          refine K_V ⟨hx, hb, hml, hown, hts⟩ (t_X4_mayCountS l dC dI sa hlt g _ _ x0 cl va s1 h0 wk vs _ (hT.sub [0, 3, 4] rfl)  ((hF.1 h0 (hT0.at 0 rfl).1 4 (hT0.at 0 rfl).2 0 (by decide)).trans h_wk) ((hF.1 wk (hT0.at 3 rfl).1 8 (hT0.at 3 rfl).2 0 (by decide)).trans h_vs) hs1 hi1.2.2.2.2.2.1) (cwV 0 hts gX4_doUntil_X4_mayCount rfl rfl rfl (by decide +kernel) ⟨(by first | exact Nat.le_of_ble_eq_true rfl | (simp only [rm_X4_mayCountS, rm_X4_doUntilS]; omega)), (by first | exact Nat.le_of_ble_eq_true rfl | (simp only [rm_X4_mayCountS, rm_X4_doUntilS]; omega))⟩) hP hD hK hS hA hev hT 0 4 rfl rfl rfl rfl hl.1 rfl (Nat.le_of_ble_eq_true rfl) dX4_doUntil_21 ⟨(by first | exact Nat.le_of_ble_eq_true rfl | (simp only [rm_X4_doUntilS]; omega) | omega), (by first | exact Nat.le_of_ble_eq_true rfl | (simp only [rm_X4_doUntilS]; omega) | omega)⟩ (fun r L_6 f_7 H locs hw_8 hP hD hS hT hE1 => ?_)
          have hF := Fr.call hF hE hw_8.2 (by decide)
          have hE := hE.tr hE1
          obtain ⟨⟨rfl, hz2_9⟩ | ⟨rfl, hz2_9⟩, hw_8⟩ := hw_8
          · obtain ⟨hct_10, hs_11⟩ := hz2_9
            refine W.eq (g2 := F0 m 24 ls [.int 0]) rfl ?_
            refine lv_if_ne (tgt := 29) hx hb dX4_doUntil_24 (by decide) (fun c_12 => ?_) (fun c_12 => ?_)
            · exact absurd c_12 (by decide)
            refine lv_iconst (v := (-1)) hx hb dX4_doUntil_27 (by decide) ?_
            exact K_i hx hb hr hlocks hP hD hK hS hT hE ⟨⟨_, rfl⟩, hF, ⟨(1000, s1), (hgo c_5).1 _ (EvR.ul hct_10), congrArg (fun z => some (Value.int z)) cO_m.symm, hs_11⟩⟩ (by first | exact Nat.le_of_ble_eq_true rfl | (simp only [rm_X4_doUntilS]; omega) | omega) (by first | exact Nat.le_of_ble_eq_true rfl | (simp only [rm_X4_doUntilS]; omega) | omega) dX4_doUntil_28
          · obtain ⟨hct_13, hs_14⟩ := hz2_9
            have hiv_15 := IV.co hi1 hct_13
            refine W.eq (g2 := F0 m 24 ls [.int 1]) rfl ?_
            refine lv_if_ne (tgt := 29) hx hb dX4_doUntil_24 (by decide) (fun c_16 => ?_) (fun c_16 => ?_)
            rotate_left
            · exact absurd c_16 (by decide)
            refine lv_aload_n hx hb dX4_doUntil_29 rfl (lv_at hl 4 rfl) ?_
            refine K_V ⟨hx, hb, hml, hown, hts⟩ (t_X0_shadeS l dC dI sa hlt g _ _ x0 wk vs cl h0 va (coA s1) ck w _ (hT.sub [2] rfl)  hs_14 (by rw [(FX.tr hfx1 FX.co).2.2.1]; exact hc) (by rw [ra_eq (hF.2 cl hSR.1.1.2.2.2.1.1 1 _ _ hSR.1.1.2.2.2.1.2 (by decide))]; exact hcl) (we_of (hiv_15.2.1.2 ck (by rw [(FX.tr hfx1 FX.co).2.2.1]; exact hc)).1).2) (cwV 0 hts gX4_doUntil_X0_shade rfl rfl rfl (by decide +kernel) ⟨(by first | exact Nat.le_of_ble_eq_true rfl | (simp only [rm_X0_shadeS, rm_X4_doUntilS]; omega)), (by first | exact Nat.le_of_ble_eq_true rfl | (simp only [rm_X0_shadeS, rm_X4_doUntilS]; omega))⟩) hP hD hK hS hA hev hT 2 0 rfl rfl rfl rfl hl.1 rfl (Nat.le_of_ble_eq_true rfl) dX4_doUntil_30 ⟨(by first | exact Nat.le_of_ble_eq_true rfl | (simp only [rm_X4_doUntilS]; omega) | omega), (by first | exact Nat.le_of_ble_eq_true rfl | (simp only [rm_X4_doUntilS]; omega) | omega)⟩ (fun r L_17 f_18 H locs hw_19 hP hD hS hT hE1 => ?_)
            have hF := Fr.call hF hE hw_19.2.1 (by decide)
            have hE := hE.tr hE1
            obtain ⟨⟨z_20, rfl⟩, hw_19⟩ := hw_19
            obtain ⟨hfr_21, hex_22⟩ := hw_19
            obtain ⟨hg_23, hs_24⟩ := hex_22
            have ez_20 : z_20 = shA (coA s1) ck := sv hg_23
            refine W.eq (g2 := F0 m 33 ls [.int z_20]) rfl ?_
            refine lv_aload_n hx hb dX4_doUntil_33 rfl (lv_at hl 3 rfl) ?_
            refine T_get (ci := 5) (C := RX5) (T := TX5) (N := 8) (t := tI) hx hb hts inw_X4_doUntil_5 hown hK hP hT 1 rfl rfl 2 (by decide) (hts (.fieldLink RX4 76 "VatHouse$Step" "number" "I") (List.mem_of_getElem? (i := 2) (by exact rfl))) (fun _ h9 => h9) rfl dX4_doUntil_34 (fun v_27 hv_25 hr_26 => ?_)
            obtain rfl : v_27 = .int (sA.2 27 k) := hr_26.symm.trans ((hF.1 o (hT0.at 1 rfl).1 5 (hT0.at 1 rfl).2 2 (by decide)).trans (hSN.2.2.1 (Or.inr (Or.inr (Or.inr hkd)))))
            refine lv_icmp_lt (tgt := 42) hx hb dX4_doUntil_37 (by decide) (fun c_28 => ?_) (fun c_28 => ?_)
            · refine lv_aload_n hx hb dX4_doUntil_42 rfl (lv_at hl 2 rfl) ?_
              refine lv_aload_n hx hb dX4_doUntil_43 rfl (lv_at hl 3 rfl) ?_
              refine T_get (ci := 5) (C := RX5) (T := TX5) (N := 8) (t := (2, 0, 5, 0)) hx hb hts inw_X4_doUntil_5 hown hK hP hT 1 rfl rfl 5 (by decide) (hts (.fieldLink RX4 114 "VatHouse$Step" "block" "LVatHouse$Step;") (List.mem_of_getElem? (i := 3) (by exact rfl))) (fun _ h9 => h9) rfl dX4_doUntil_44 (fun v_31 hv_29 hr_30 => ?_)
              rcases hv_29 with rfl | ⟨b_32, rfl, hb9⟩
              · refine lv_aload_n hx hb dX4_doUntil_47 rfl (lv_at hl 4 rfl) ?_
                refine lv_iload_n hx hb dX4_doUntil_48 rfl (lv_at hl 5 rfl) ?_
                refine K_V ⟨hx, hb, hml, hown, hts⟩ (IHS _ _ x0 cl va B ck V ad dp (coA s1) (sA.2 31 k) h0 .null w dep wk vs _ (hT.sub [0, 2, 3, 4] rfl) (Or.inl rfl) ((hF.1 h0 (hT0.at 0 rfl).1 4 (hT0.at 0 rfl).2 0 (by decide)).trans h_wk) ((hF.1 wk (hT0.at 3 rfl).1 8 (hT0.at 3 rfl).2 0 (by decide)).trans h_vs) hd hs_24 hiv_15 hB (by rw [(FX.tr hfx1 FX.co).2.2.1]; exact hc) (by rw [ra_eq (hF.2 cl hSR.1.1.2.2.2.1.1 1 _ _ hSR.1.1.2.2.2.1.2 (by decide))]; exact hcl) (hTR.go hE hF (by decide) (FX.nt (FX.tr hfx1 FX.co))) (hLV.go (FX.nt (FX.tr hfx1 FX.co))) (hNVs.fx (FX.tr hfx1 FX.co)) (hr_30.symm.trans ((hF.1 o (hT0.at 1 rfl).1 5 (hT0.at 1 rfl).2 5 (by decide)).trans hSN.2.2.2.2.2.1)) (hkl ▸ (hLV k hk).2.2.2.1) (hd8)) (cwV 3 hts gX4_doUntil_X4_doSteps rfl rfl rfl (by decide +kernel) ⟨(by first | exact Nat.le_of_ble_eq_true rfl | (simp only [rm_X4_doStepsS, rm_X4_doUntilS]; omega)), (by first | exact Nat.le_of_ble_eq_true rfl | (simp only [rm_X4_doStepsS, rm_X4_doUntilS]; omega))⟩) hP hD hK hS hA hev hT 0 4 rfl rfl rfl rfl hl.1 rfl (Nat.le_of_ble_eq_true rfl) dX4_doUntil_49 ⟨(by first | exact Nat.le_of_ble_eq_true rfl | (simp only [rm_X4_doUntilS]; omega) | omega), (by first | exact Nat.le_of_ble_eq_true rfl | (simp only [rm_X4_doUntilS]; omega) | omega)⟩ (fun r L_33 f_34 H locs hw_35 hP hD hS hT hE1 => ?_)
                have hF := Fr.call hF hE hw_35.2.1 (by decide)
                have hE := hE.tr hE1
                obtain ⟨⟨z_36, rfl⟩, hw_35⟩ := hw_35
                obtain ⟨hfr_37, hex_38⟩ := hw_35
                obtain ⟨u_39, hev_40, hrr_41, hs_42⟩ := hex_38
                have hok_43 := EvR.inv (B := B) (V := V) hev_40 hB hiv_15 (hNVs.fx (FX.tr hfx1 FX.co)) (by rw [(FX.tr hfx1 FX.co).2.2.1]; exact hc) (fun _ => lk.V hLV (hkl ▸ (hLV k hk).2.2.2.1)) (fun e9 => absurd rfl e9)
                have hz_36 : z_36 = cO u_39.1 := sv hrr_41
                have hfx_44 := FX.tr (FX.tr hfx1 FX.co) hok_43.2.1
                have hiv_45 := hok_43.1
                refine W.eq (g2 := F0 m 52 ls [.int z_36]) rfl ?_
                refine lv_istore (lv' := [(4, .int z_36), (5, .int ii), (0, .ref h0), (1, .ref o), (2, .ref w), (3, .int dep)]) hx hb dX4_doUntil_52 hl (by decide) rfl (fun ls hl => ?_)
                refine lv_iinc (v := (ii + 1)) (lv' := [(5, .int (ii + 1)), (4, .int z_36), (0, .ref h0), (1, .ref o), (2, .ref w), (3, .int dep)]) hx hb dX4_doUntil_54 hl (k := 1) rfl rfl (by decide) rfl (fun ls hl => ?_)
                refine lv_goto (tgt := 6) hx hb dX4_doUntil_57 (by decide) ?_
                exact ih z_36 (ii + 1) _ _ _ _ _ (⟨⟨a + 1, by rw [ha]; exact nI_1 a, by have h1 := co_le hi1 hct_13; have h2 := hi1.2.2.2.2.2; omega, _, hs_42.2.2.2.2.2.2.2.2.1, by have h1 := co_le hi1 hct_13; have h2 := hok_43.2.2.2; omega⟩, u_39.2, ⟨hs_42, hiv_45, hfx_44⟩, fun h9 => ⟨fun w9 h8 => (hgo c_5).1 _ (EvR.ug hct_13 (by rw [(congrFun (FX.nt hfx1 27 (by omega)) k), show shA s1 ck = shA (coA s1) ck from rfl, ← ez_20]; exact fun g9 => le_nlt g9 c_28) (by rw [(congrFun (FX.nt hfx1 31 (by omega)) k)]; exact hev_40) ((cO_z hok_43.2.2.1).1.mp (hz_36 ▸ h9)) h8), LPm (hgo c_5).2 (by have h1 := co_le hi1 hct_13; have h2 := hok_43.2.2.2; omega) (hok_43.2.1.2.2.2.1.trans rfl) hiv_45.2.2.2.2.2.1⟩, fun h9 => ⟨u_39.1, hz_36, (hgo c_5).1 _ (EvR.ue hct_13 (by rw [(congrFun (FX.nt hfx1 27 (by omega)) k), show shA s1 ck = shA (coA s1) ck from rfl, ← ez_20]; exact fun g9 => le_nlt g9 c_28) (by rw [(congrFun (FX.nt hfx1 31 (by omega)) k)]; exact hev_40) (fun e9 => h9 (by rw [hz_36]; exact (cO_z hok_43.2.2.1).1.mpr e9)))⟩, by have h8 := (hgo c_5).2; omega⟩)  hP hD hS (hT.sub [0, 1, 2, 3, 4] rfl) hE hF (lv_sub hl [1, 0, 2, 3, 4, 5] rfl)
              · have hT := hT.add hb9
                refine lv_aload_n hx hb dX4_doUntil_47 rfl (lv_at hl 4 rfl) ?_
                refine lv_iload_n hx hb dX4_doUntil_48 rfl (lv_at hl 5 rfl) ?_
                refine K_V ⟨hx, hb, hml, hown, hts⟩ (IHS _ _ x0 cl va B ck V ad dp (coA s1) (sA.2 31 k) h0 (.ref b_32) w dep wk vs _ (hT.sub [1, 3, 4, 5] rfl) (Or.inr ⟨_, rfl, hT.at 0 rfl⟩) ((hF.1 h0 (hT0.at 0 rfl).1 4 (hT0.at 0 rfl).2 0 (by decide)).trans h_wk) ((hF.1 wk (hT0.at 3 rfl).1 8 (hT0.at 3 rfl).2 0 (by decide)).trans h_vs) hd hs_24 hiv_15 hB (by rw [(FX.tr hfx1 FX.co).2.2.1]; exact hc) (by rw [ra_eq (hF.2 cl hSR.1.1.2.2.2.1.1 1 _ _ hSR.1.1.2.2.2.1.2 (by decide))]; exact hcl) (hTR.go hE hF (by decide) (FX.nt (FX.tr hfx1 FX.co))) (hLV.go (FX.nt (FX.tr hfx1 FX.co))) (hNVs.fx (FX.tr hfx1 FX.co)) (hr_30.symm.trans ((hF.1 o (hT0.at 1 rfl).1 5 (hT0.at 1 rfl).2 5 (by decide)).trans hSN.2.2.2.2.2.1)) (hkl ▸ (hLV k hk).2.2.2.1) (hd8)) (cwV 3 hts gX4_doUntil_X4_doSteps rfl rfl rfl (by decide +kernel) ⟨(by first | exact Nat.le_of_ble_eq_true rfl | (simp only [rm_X4_doStepsS, rm_X4_doUntilS]; omega)), (by first | exact Nat.le_of_ble_eq_true rfl | (simp only [rm_X4_doStepsS, rm_X4_doUntilS]; omega))⟩) hP hD hK hS hA hev hT 1 4 rfl rfl rfl rfl hl.1 rfl (Nat.le_of_ble_eq_true rfl) dX4_doUntil_49 ⟨(by first | exact Nat.le_of_ble_eq_true rfl | (simp only [rm_X4_doUntilS]; omega) | omega), (by first | exact Nat.le_of_ble_eq_true rfl | (simp only [rm_X4_doUntilS]; omega) | omega)⟩ (fun r L_46 f_47 H locs hw_48 hP hD hS hT hE1 => ?_)
                have hF := Fr.call hF hE hw_48.2.1 (by decide)
                have hE := hE.tr hE1
                obtain ⟨⟨z_49, rfl⟩, hw_48⟩ := hw_48
                obtain ⟨hfr_50, hex_51⟩ := hw_48
                obtain ⟨u_52, hev_53, hrr_54, hs_55⟩ := hex_51
                have hok_56 := EvR.inv (B := B) (V := V) hev_53 hB hiv_15 (hNVs.fx (FX.tr hfx1 FX.co)) (by rw [(FX.tr hfx1 FX.co).2.2.1]; exact hc) (fun _ => lk.V hLV (hkl ▸ (hLV k hk).2.2.2.1)) (fun e9 => absurd rfl e9)
                have hz_49 : z_49 = cO u_52.1 := sv hrr_54
                have hfx_57 := FX.tr (FX.tr hfx1 FX.co) hok_56.2.1
                have hiv_58 := hok_56.1
                refine W.eq (g2 := F0 m 52 ls [.int z_49]) rfl ?_
                refine lv_istore (lv' := [(4, .int z_49), (5, .int ii), (0, .ref h0), (1, .ref o), (2, .ref w), (3, .int dep)]) hx hb dX4_doUntil_52 hl (by decide) rfl (fun ls hl => ?_)
                refine lv_iinc (v := (ii + 1)) (lv' := [(5, .int (ii + 1)), (4, .int z_49), (0, .ref h0), (1, .ref o), (2, .ref w), (3, .int dep)]) hx hb dX4_doUntil_54 hl (k := 1) rfl rfl (by decide) rfl (fun ls hl => ?_)
                refine lv_goto (tgt := 6) hx hb dX4_doUntil_57 (by decide) ?_
                exact ih z_49 (ii + 1) _ _ _ _ _ (⟨⟨a + 1, by rw [ha]; exact nI_1 a, by have h1 := co_le hi1 hct_13; have h2 := hi1.2.2.2.2.2; omega, _, hs_55.2.2.2.2.2.2.2.2.1, by have h1 := co_le hi1 hct_13; have h2 := hok_56.2.2.2; omega⟩, u_52.2, ⟨hs_55, hiv_58, hfx_57⟩, fun h9 => ⟨fun w9 h8 => (hgo c_5).1 _ (EvR.ug hct_13 (by rw [(congrFun (FX.nt hfx1 27 (by omega)) k), show shA s1 ck = shA (coA s1) ck from rfl, ← ez_20]; exact fun g9 => le_nlt g9 c_28) (by rw [(congrFun (FX.nt hfx1 31 (by omega)) k)]; exact hev_53) ((cO_z hok_56.2.2.1).1.mp (hz_49 ▸ h9)) h8), LPm (hgo c_5).2 (by have h1 := co_le hi1 hct_13; have h2 := hok_56.2.2.2; omega) (hok_56.2.1.2.2.2.1.trans rfl) hiv_58.2.2.2.2.2.1⟩, fun h9 => ⟨u_52.1, hz_49, (hgo c_5).1 _ (EvR.ue hct_13 (by rw [(congrFun (FX.nt hfx1 27 (by omega)) k), show shA s1 ck = shA (coA s1) ck from rfl, ← ez_20]; exact fun g9 => le_nlt g9 c_28) (by rw [(congrFun (FX.nt hfx1 31 (by omega)) k)]; exact hev_53) (fun e9 => h9 (by rw [hz_49]; exact (cO_z hok_56.2.2.1).1.mpr e9)))⟩, by have h8 := (hgo c_5).2; omega⟩)  hP hD hS (hT.sub [1, 2, 3, 4, 5] rfl) hE hF (lv_sub hl [1, 0, 2, 3, 4, 5] rfl)
            · refine lv_iconst (v := 0) hx hb dX4_doUntil_40 (by decide) ?_
              exact K_i hx hb hr hlocks hP hD hK hS hT hE ⟨⟨_, rfl⟩, hF, ⟨(0, coA s1), (hgo c_5).1 _ (EvR.u0 hct_13 (by rw [(congrFun (FX.nt hfx1 27 (by omega)) k), show shA s1 ck = shA (coA s1) ck from rfl, ← ez_20]; exact nlt_le c_28)), congrArg (fun z => some (Value.int z)) cO_0.symm, hs_24⟩⟩ (by first | exact Nat.le_of_ble_eq_true rfl | (simp only [rm_X4_doUntilS]; omega) | omega) (by first | exact Nat.le_of_ble_eq_true rfl | (simp only [rm_X4_doUntilS]; omega) | omega) dX4_doUntil_41
  exact lp (((sA.1 39).toInt - (sA.1 40).toInt).toNat + 2) 0 0 _ _ _ _ _ (⟨⟨0, nI_0.symm, by omega, _, hSR.2.2.2.2.2.2.2.2.1, hIV.2.2.2.2.1⟩, sA, ⟨hSR, hIV, FX.rf⟩, fun _ => ⟨fun _ h9 => h9, by omega⟩, fun h9 => absurd rfl h9, by omega⟩)  hP hD hS (hT.sub [0, 1, 2, 3, 4] rfl) hE hF (lv_sub hl [1, 0, 2, 3, 4, 5] rfl)

noncomputable abbrev rm_X4_doTryS (j : Nat) (d : Nat) (x0 : Nat) (cl : Nat) (va : Nat → Nat) (B : Int) (ck : Nat) (V : Nat → Prop) (ad : Nat → Nat) (dp : Nat → Nat) (sA : AS) (k : Nat) : Room := { frames := 3 * j + 31, cells := 0, slots := 0, locals := 100 * j + 533 }
set_option maxHeartbeats 800000 in
set_option maxRecDepth 100000 in
theorem t_X4_doTryS (l : Launch) (dC : Nat → ClassId) (dI : Nat → Nat → Nat) (sa : Nat → Nat) (hlt : l.stackTraces = false) (g : Nat → Nat) (L : List Nat) (f : Nat → va_E) (j : Nat) (d : Nat) (x0 : Nat) (cl : Nat) (va : Nat → Nat) (B : Int) (ck : Nat) (V : Nat → Prop) (ad : Nat → Nat) (dp : Nat → Nat) (sA : AS) (k : Nat) (h0 : Nat) (o : Nat) (w : Nat) (dep : Int32) (wk : Nat) (vs : Nat) (sz : Nat) (hT : TP g L f [(h0, (0, 4, 0)), (o, (0, 5, 0)), (w, (0, 0, 0)), (wk, (0, 8, 0)), (vs, (2, g 2, 6))]) (h_wk : rd f h0 0 = .ref wk) (h_vs : rd f wk 0 = .ref vs) (hd : dep = nI d) (hdj : d + j = 9) (hSR : SR g L f (x0, wk, vs, cl, h0, va) sA) (hIV : IV B sA) (hB : B ≤ 10000000) (hc : (ck : Int) < (sA.1 12).toInt) (hcl : ra f cl ck = some w) (hTR : TRS V ad L f sA) (hLV : LVS V dp sA) (hNVs : NV V sA) (hk : V k) (ho : o = ad k) (hkl : dp k + 1 = d) (h7 : ¬ sA.2 26 k < 7) (hkd : sA.2 26 k = 10) (IHS : ∀ (L : List Nat) (f : Nat → va_E) (x0 : Nat) (cl : Nat) (va : Nat → Nat) (B : Int) (ck : Nat) (V : Nat → Prop) (ad : Nat → Nat) (dp : Nat → Nat) (sA : AS) (x : Int32) (h0 : Nat) (fs : Value) (w : Nat) (dep : Int32) (wk : Nat) (vs : Nat) (sz : Nat) (hT : TP g L f [(h0, (0, 4, 0)), (w, (0, 0, 0)), (wk, (0, 8, 0)), (vs, (2, g 2, 6))]) (hn_fs : okv L f (2, 0, 5, 0) fs) (h_wk : rd f h0 0 = .ref wk) (h_vs : rd f wk 0 = .ref vs) (hd : dep = nI d) (hSR : SR g L f (x0, wk, vs, cl, h0, va) sA) (hIV : IV B sA) (hB : B ≤ 10000000) (hc : (ck : Int) < (sA.1 12).toInt) (hcl : ra f cl ck = some w) (hTR : TRS V ad L f sA) (hLV : LVS V dp sA) (hNVs : NV V sA) (hfs : fs = lkr ad x) (hlk : lk V dp d x) (hd8 : d ≤ 8), KC l dC dI sa g yX4_doSteps wsX4_doSteps (rm_X4_doStepsS j d x0 cl va B ck V ad dp sA x) [.ref h0, fs, .ref w, .int dep] L f sz (fun r L' f' => (∃ z : Int32, r = some (.int z)) ∧ Fr [(0, 2), (0, 3), (0, 6), (0, 7), (7, 1), (7, 2), (7, 3), (7, 4), (7, 5), (7, 6), (7, 7), (8, 1), (8, 2), (4, 4), (4, 5), (4, 6), (4, 7)] L f f' ∧ (∃ u : Int32 × AS, EvR 0 x 0 ck sA u ∧ r = some (.int (cO u.1)) ∧ SR g L' f' (x0, wk, vs, cl, h0, va) u.2)) 0 0) : KC l dC dI sa g yX4_doTry wsX4_doTry (rm_X4_doTryS j d x0 cl va B ck V ad dp sA k) [.ref h0, .ref o, .ref w, .int dep] L f sz (fun r L' f' => (∃ z : Int32, r = some (.int z)) ∧ Fr [(0, 2), (0, 3), (0, 6), (0, 7), (7, 1), (7, 2), (7, 3), (7, 4), (7, 5), (7, 6), (7, 7), (8, 1), (8, 2), (4, 4), (4, 5), (4, 6), (4, 7)] L f f' ∧ (∃ u : Int32 × AS, BR k ck sA u ∧ r = some (.int (cO u.1)) ∧ SR g L' f' (x0, wk, vs, cl, h0, va) u.2)) 0 0 := by
  refine CT.start (cc := cX4_doTry) (maxL := 5) (ret := (some .int)) (by decide) rfl (Nat.le_of_ble_eq_true rfl) ?_
  intro p e s m below meth c ls hst hP hK hD hev hS hl
  obtain ⟨hx, hb, hr, hml, hts, hown, hlocks, hin⟩ := hst
  have hown : s.vm.findClass RX4 = some m.cls := hown
  have hin : meth.name = yX4_doTry.name := hin
  have hA : ∀ q : Nat, s.heap.size ≤ q → va_A (va_pl L f) s.heap.size q := fun _ h => Or.inr h
  have hE : Ext L f L f := Ext.rf
  have hF : Fr [(0, 2), (0, 3), (0, 6), (0, 7), (7, 1), (7, 2), (7, 3), (7, 4), (7, 5), (7, 6), (7, 7), (8, 1), (8, 2), (4, 4), (4, 5), (4, 6), (4, 7)] L f f := Fr.rf
  have hl : lv_has ls 5 [(0, .ref h0), (1, .ref o), (2, .ref w), (3, .int dep)] := hl
  have hT0 := hT
  have hSN : SN f ad sA o k := by rw [ho]; exact (hTR k hk).2
  have hd8 : d ≤ 8 := by have h9 := (hLV k hk).2.2.1 (kd_7 (hNVs k hk).1.1 h7); omega
  refine lv_aload_n hx hb dX4_doTry_0 rfl (lv_at hl 0 rfl) ?_
  refine lv_aload_n hx hb dX4_doTry_1 rfl (lv_at hl 1 rfl) ?_
  refine T_get (ci := 5) (C := RX5) (T := TX5) (N := 8) (t := (2, 0, 5, 0)) hx hb hts inw_X4_doTry_5 hown hK hP hT 1 rfl rfl 5 (by decide) (hts (.fieldLink RX4 114 "VatHouse$Step" "block" "LVatHouse$Step;") (List.mem_of_getElem? (i := 1) (by exact rfl))) (fun _ h9 => h9) rfl dX4_doTry_2 (fun v_3 hv_1 hr_2 => ?_)
  rcases hv_1 with rfl | ⟨b_4, rfl, hb9⟩
  · refine lv_aload_n hx hb dX4_doTry_5 rfl (lv_at hl 2 rfl) ?_
    refine lv_iload_n hx hb dX4_doTry_6 rfl (lv_at hl 3 rfl) ?_
    refine K_V ⟨hx, hb, hml, hown, hts⟩ (IHS _ _ x0 cl va B ck V ad dp sA (sA.2 31 k) h0 .null w dep wk vs _ (hT.sub [0, 2, 3, 4] rfl) (Or.inl rfl) ((hF.1 h0 (hT0.at 0 rfl).1 4 (hT0.at 0 rfl).2 0 (by decide)).trans h_wk) ((hF.1 wk (hT0.at 3 rfl).1 8 (hT0.at 3 rfl).2 0 (by decide)).trans h_vs) hd hSR hIV hB hc (by rw [ra_eq (hF.2 cl hSR.1.1.2.2.2.1.1 1 _ _ hSR.1.1.2.2.2.1.2 (by decide))]; exact hcl) (hTR.go hE hF (by decide) (FX.nt FX.rf)) (hLV.go (FX.nt FX.rf)) (hNVs.fx FX.rf) (hr_2.symm.trans ((hF.1 o (hT0.at 1 rfl).1 5 (hT0.at 1 rfl).2 5 (by decide)).trans hSN.2.2.2.2.2.1)) (hkl ▸ (hLV k hk).2.2.2.1) (hd8)) (cwV 3 hts gX4_doTry_X4_doSteps rfl rfl rfl (by decide +kernel) ⟨(by first | exact Nat.le_of_ble_eq_true rfl | (simp only [rm_X4_doStepsS, rm_X4_doTryS]; omega)), (by first | exact Nat.le_of_ble_eq_true rfl | (simp only [rm_X4_doStepsS, rm_X4_doTryS]; omega))⟩) hP hD hK hS hA hev hT 0 4 rfl rfl rfl rfl hl.1 rfl (Nat.le_of_ble_eq_true rfl) dX4_doTry_7 ⟨(by first | exact Nat.le_of_ble_eq_true rfl | (simp only [rm_X4_doTryS]; omega) | omega), (by first | exact Nat.le_of_ble_eq_true rfl | (simp only [rm_X4_doTryS]; omega) | omega)⟩ (fun r L_5 f_6 H locs hw_7 hP hD hS hT hE1 => ?_)
    have hF := Fr.call hF hE hw_7.2.1 (by decide)
    have hE := hE.tr hE1
    obtain ⟨⟨z_8, rfl⟩, hw_7⟩ := hw_7
    obtain ⟨hfr_9, hex_10⟩ := hw_7
    obtain ⟨u_11, hev_12, hrr_13, hs_14⟩ := hex_10
    have hok_15 := EvR.inv (B := B) (V := V) hev_12 hB hIV (hNVs.fx FX.rf) hc (fun _ => lk.V hLV (hkl ▸ (hLV k hk).2.2.2.1)) (fun e9 => absurd rfl e9)
    have hz_8 : z_8 = cO u_11.1 := sv hrr_13
    have hfx_16 := FX.tr FX.rf hok_15.2.1
    have hiv_17 := hok_15.1
    refine W.eq (g2 := F0 m 10 ls [.int z_8]) rfl ?_
    refine lv_istore (lv' := [(4, .int z_8), (0, .ref h0), (1, .ref o), (2, .ref w), (3, .int dep)]) hx hb dX4_doTry_10 hl (by decide) rfl (fun ls hl => ?_)
    refine lv_iload hx hb dX4_doTry_12 (lv_at hl 0 rfl) ?_
    refine lv_if_eq (tgt := 23) hx hb dX4_doTry_14 (by decide) (fun c_18 => ?_) (fun c_18 => ?_)
    · refine lv_iload hx hb dX4_doTry_23 (lv_at hl 0 rfl) ?_
      exact K_i hx hb hr hlocks hP hD hK hS hT hE ⟨⟨_, rfl⟩, hF, ⟨u_11, Or.inr (Or.inr (Or.inr (Or.inl ⟨hkd, _, hev_12, Or.inl ⟨Or.inl ((cO_z hok_15.2.2.1).1.mp (hz_8 ▸ c_18)), rfl⟩⟩))), congrArg (fun z => some (Value.int z)) hz_8, hs_14⟩⟩ (by first | exact Nat.le_of_ble_eq_true rfl | (simp only [rm_X4_doTryS]; omega) | omega) (by first | exact Nat.le_of_ble_eq_true rfl | (simp only [rm_X4_doTryS]; omega) | omega) dX4_doTry_25
    · refine lv_iload hx hb dX4_doTry_17 (lv_at hl 0 rfl) ?_
      refine lv_iconst (v := (-1)) hx hb dX4_doTry_19 (by decide) ?_
      refine lv_icmp_ne (tgt := 26) hx hb dX4_doTry_20 (by decide) (fun c_19 => ?_) (fun c_19 => ?_)
      · refine lv_aload_n hx hb dX4_doTry_26 rfl (lv_at hl 1 rfl) ?_
        refine lv_aload_n hx hb dX4_doTry_27 rfl (lv_at hl 2 rfl) ?_
        refine T_get (ci := 5) (C := RX5) (T := TX5) (N := 8) (t := (2, 0, 5, 0)) hx hb hts inw_X4_doTry_5 hown hK hP hT 1 rfl rfl 6 (by decide) (hts (.fieldLink RX4 117 "VatHouse$Step" "other" "LVatHouse$Step;") (List.mem_of_getElem? (i := 2) (by exact rfl))) (fun _ h9 => h9) rfl dX4_doTry_28 (fun v_22 hv_20 hr_21 => ?_)
        rcases hv_20 with rfl | ⟨b_23, rfl, hb9⟩
        · refine lv_aload_n hx hb dX4_doTry_31 rfl (lv_at hl 3 rfl) ?_
          refine lv_iload_n hx hb dX4_doTry_32 rfl (lv_at hl 4 rfl) ?_
          refine K_V ⟨hx, hb, hml, hown, hts⟩ (IHS _ _ x0 cl va B ck V ad dp u_11.2 (sA.2 32 k) h0 .null w dep wk vs _ (hT.sub [0, 2, 3, 4] rfl) (Or.inl rfl) ((hF.1 h0 (hT0.at 0 rfl).1 4 (hT0.at 0 rfl).2 0 (by decide)).trans h_wk) ((hF.1 wk (hT0.at 3 rfl).1 8 (hT0.at 3 rfl).2 0 (by decide)).trans h_vs) hd hs_14 hiv_17 hB (by rw [hfx_16.2.2.1]; exact hc) (by rw [ra_eq (hF.2 cl hSR.1.1.2.2.2.1.1 1 _ _ hSR.1.1.2.2.2.1.2 (by decide))]; exact hcl) (hTR.go hE hF (by decide) (FX.nt hfx_16)) (hLV.go (FX.nt hfx_16)) (hNVs.fx hfx_16) (hr_21.symm.trans ((hF.1 o (hT0.at 1 rfl).1 5 (hT0.at 1 rfl).2 6 (by decide)).trans hSN.2.2.2.2.2.2.1)) (hkl ▸ (hLV k hk).2.2.2.2.1) (hd8)) (cwV 3 hts gX4_doTry_X4_doSteps rfl rfl rfl (by decide +kernel) ⟨(by first | exact Nat.le_of_ble_eq_true rfl | (simp only [rm_X4_doStepsS, rm_X4_doTryS]; omega)), (by first | exact Nat.le_of_ble_eq_true rfl | (simp only [rm_X4_doStepsS, rm_X4_doTryS]; omega))⟩) hP hD hK hS hA hev hT 0 4 rfl rfl rfl rfl hl.1 rfl (Nat.le_of_ble_eq_true rfl) dX4_doTry_33 ⟨(by first | exact Nat.le_of_ble_eq_true rfl | (simp only [rm_X4_doTryS]; omega) | omega), (by first | exact Nat.le_of_ble_eq_true rfl | (simp only [rm_X4_doTryS]; omega) | omega)⟩ (fun r L_24 f_25 H locs hw_26 hP hD hS hT hE1 => ?_)
          have hF := Fr.call hF hE hw_26.2.1 (by decide)
          have hE := hE.tr hE1
          obtain ⟨⟨z_27, rfl⟩, hw_26⟩ := hw_26
          obtain ⟨hfr_28, hex_29⟩ := hw_26
          obtain ⟨u_30, hev_31, hrr_32, hs_33⟩ := hex_29
          have hok_34 := EvR.inv (B := B) (V := V) hev_31 hB hiv_17 (hNVs.fx hfx_16) (by rw [hfx_16.2.2.1]; exact hc) (fun _ => lk.V hLV (hkl ▸ (hLV k hk).2.2.2.2.1)) (fun e9 => absurd rfl e9)
          have hz_27 : z_27 = cO u_30.1 := sv hrr_32
          have hfx_35 := FX.tr hfx_16 hok_34.2.1
          have hiv_36 := hok_34.1
          refine W.eq (g2 := F0 m 36 ls [.int z_27]) rfl ?_
          exact K_i hx hb hr hlocks hP hD hK hS hT hE ⟨⟨_, rfl⟩, hF, ⟨u_30, Or.inr (Or.inr (Or.inr (Or.inl ⟨hkd, _, hev_12, Or.inr ⟨by rintro (e9 | e9); exact c_18 (by rw [hz_8]; exact (cO_z hok_15.2.2.1).1.mpr e9); exact c_19 (by rw [hz_8]; exact (cO_z hok_15.2.2.1).2.mpr e9), (by rw [congrFun (FX.nt hok_15.2.1 32 (by omega)) k]; exact hev_31)⟩⟩))), congrArg (fun z => some (Value.int z)) hz_27, hs_33⟩⟩ (by first | exact Nat.le_of_ble_eq_true rfl | (simp only [rm_X4_doTryS]; omega) | omega) (by first | exact Nat.le_of_ble_eq_true rfl | (simp only [rm_X4_doTryS]; omega) | omega) dX4_doTry_36
        · have hT := hT.add hb9
          refine lv_aload_n hx hb dX4_doTry_31 rfl (lv_at hl 3 rfl) ?_
          refine lv_iload_n hx hb dX4_doTry_32 rfl (lv_at hl 4 rfl) ?_
          refine K_V ⟨hx, hb, hml, hown, hts⟩ (IHS _ _ x0 cl va B ck V ad dp u_11.2 (sA.2 32 k) h0 (.ref b_23) w dep wk vs _ (hT.sub [1, 3, 4, 5] rfl) (Or.inr ⟨_, rfl, hT.at 0 rfl⟩) ((hF.1 h0 (hT0.at 0 rfl).1 4 (hT0.at 0 rfl).2 0 (by decide)).trans h_wk) ((hF.1 wk (hT0.at 3 rfl).1 8 (hT0.at 3 rfl).2 0 (by decide)).trans h_vs) hd hs_14 hiv_17 hB (by rw [hfx_16.2.2.1]; exact hc) (by rw [ra_eq (hF.2 cl hSR.1.1.2.2.2.1.1 1 _ _ hSR.1.1.2.2.2.1.2 (by decide))]; exact hcl) (hTR.go hE hF (by decide) (FX.nt hfx_16)) (hLV.go (FX.nt hfx_16)) (hNVs.fx hfx_16) (hr_21.symm.trans ((hF.1 o (hT0.at 1 rfl).1 5 (hT0.at 1 rfl).2 6 (by decide)).trans hSN.2.2.2.2.2.2.1)) (hkl ▸ (hLV k hk).2.2.2.2.1) (hd8)) (cwV 3 hts gX4_doTry_X4_doSteps rfl rfl rfl (by decide +kernel) ⟨(by first | exact Nat.le_of_ble_eq_true rfl | (simp only [rm_X4_doStepsS, rm_X4_doTryS]; omega)), (by first | exact Nat.le_of_ble_eq_true rfl | (simp only [rm_X4_doStepsS, rm_X4_doTryS]; omega))⟩) hP hD hK hS hA hev hT 1 4 rfl rfl rfl rfl hl.1 rfl (Nat.le_of_ble_eq_true rfl) dX4_doTry_33 ⟨(by first | exact Nat.le_of_ble_eq_true rfl | (simp only [rm_X4_doTryS]; omega) | omega), (by first | exact Nat.le_of_ble_eq_true rfl | (simp only [rm_X4_doTryS]; omega) | omega)⟩ (fun r L_37 f_38 H locs hw_39 hP hD hS hT hE1 => ?_)
          have hF := Fr.call hF hE hw_39.2.1 (by decide)
          have hE := hE.tr hE1
          obtain ⟨⟨z_40, rfl⟩, hw_39⟩ := hw_39
          obtain ⟨hfr_41, hex_42⟩ := hw_39
          obtain ⟨u_43, hev_44, hrr_45, hs_46⟩ := hex_42
          have hok_47 := EvR.inv (B := B) (V := V) hev_44 hB hiv_17 (hNVs.fx hfx_16) (by rw [hfx_16.2.2.1]; exact hc) (fun _ => lk.V hLV (hkl ▸ (hLV k hk).2.2.2.2.1)) (fun e9 => absurd rfl e9)
          have hz_40 : z_40 = cO u_43.1 := sv hrr_45
          have hfx_48 := FX.tr hfx_16 hok_47.2.1
          have hiv_49 := hok_47.1
          refine W.eq (g2 := F0 m 36 ls [.int z_40]) rfl ?_
          exact K_i hx hb hr hlocks hP hD hK hS hT hE ⟨⟨_, rfl⟩, hF, ⟨u_43, Or.inr (Or.inr (Or.inr (Or.inl ⟨hkd, _, hev_12, Or.inr ⟨by rintro (e9 | e9); exact c_18 (by rw [hz_8]; exact (cO_z hok_15.2.2.1).1.mpr e9); exact c_19 (by rw [hz_8]; exact (cO_z hok_15.2.2.1).2.mpr e9), (by rw [congrFun (FX.nt hok_15.2.1 32 (by omega)) k]; exact hev_44)⟩⟩))), congrArg (fun z => some (Value.int z)) hz_40, hs_46⟩⟩ (by first | exact Nat.le_of_ble_eq_true rfl | (simp only [rm_X4_doTryS]; omega) | omega) (by first | exact Nat.le_of_ble_eq_true rfl | (simp only [rm_X4_doTryS]; omega) | omega) dX4_doTry_36
      · refine lv_iload hx hb dX4_doTry_23 (lv_at hl 0 rfl) ?_
        exact K_i hx hb hr hlocks hP hD hK hS hT hE ⟨⟨_, rfl⟩, hF, ⟨u_11, Or.inr (Or.inr (Or.inr (Or.inl ⟨hkd, _, hev_12, Or.inl ⟨Or.inr ((cO_z hok_15.2.2.1).2.mp (hz_8 ▸ c_19)), rfl⟩⟩))), congrArg (fun z => some (Value.int z)) hz_8, hs_14⟩⟩ (by first | exact Nat.le_of_ble_eq_true rfl | (simp only [rm_X4_doTryS]; omega) | omega) (by first | exact Nat.le_of_ble_eq_true rfl | (simp only [rm_X4_doTryS]; omega) | omega) dX4_doTry_25
  · have hT := hT.add hb9
    refine lv_aload_n hx hb dX4_doTry_5 rfl (lv_at hl 2 rfl) ?_
    refine lv_iload_n hx hb dX4_doTry_6 rfl (lv_at hl 3 rfl) ?_
    refine K_V ⟨hx, hb, hml, hown, hts⟩ (IHS _ _ x0 cl va B ck V ad dp sA (sA.2 31 k) h0 (.ref b_4) w dep wk vs _ (hT.sub [1, 3, 4, 5] rfl) (Or.inr ⟨_, rfl, hT.at 0 rfl⟩) ((hF.1 h0 (hT0.at 0 rfl).1 4 (hT0.at 0 rfl).2 0 (by decide)).trans h_wk) ((hF.1 wk (hT0.at 3 rfl).1 8 (hT0.at 3 rfl).2 0 (by decide)).trans h_vs) hd hSR hIV hB hc (by rw [ra_eq (hF.2 cl hSR.1.1.2.2.2.1.1 1 _ _ hSR.1.1.2.2.2.1.2 (by decide))]; exact hcl) (hTR.go hE hF (by decide) (FX.nt FX.rf)) (hLV.go (FX.nt FX.rf)) (hNVs.fx FX.rf) (hr_2.symm.trans ((hF.1 o (hT0.at 1 rfl).1 5 (hT0.at 1 rfl).2 5 (by decide)).trans hSN.2.2.2.2.2.1)) (hkl ▸ (hLV k hk).2.2.2.1) (hd8)) (cwV 3 hts gX4_doTry_X4_doSteps rfl rfl rfl (by decide +kernel) ⟨(by first | exact Nat.le_of_ble_eq_true rfl | (simp only [rm_X4_doStepsS, rm_X4_doTryS]; omega)), (by first | exact Nat.le_of_ble_eq_true rfl | (simp only [rm_X4_doStepsS, rm_X4_doTryS]; omega))⟩) hP hD hK hS hA hev hT 1 4 rfl rfl rfl rfl hl.1 rfl (Nat.le_of_ble_eq_true rfl) dX4_doTry_7 ⟨(by first | exact Nat.le_of_ble_eq_true rfl | (simp only [rm_X4_doTryS]; omega) | omega), (by first | exact Nat.le_of_ble_eq_true rfl | (simp only [rm_X4_doTryS]; omega) | omega)⟩ (fun r L_50 f_51 H locs hw_52 hP hD hS hT hE1 => ?_)
    have hF := Fr.call hF hE hw_52.2.1 (by decide)
    have hE := hE.tr hE1
    obtain ⟨⟨z_53, rfl⟩, hw_52⟩ := hw_52
    obtain ⟨hfr_54, hex_55⟩ := hw_52
    obtain ⟨u_56, hev_57, hrr_58, hs_59⟩ := hex_55
    have hok_60 := EvR.inv (B := B) (V := V) hev_57 hB hIV (hNVs.fx FX.rf) hc (fun _ => lk.V hLV (hkl ▸ (hLV k hk).2.2.2.1)) (fun e9 => absurd rfl e9)
    have hz_53 : z_53 = cO u_56.1 := sv hrr_58
    have hfx_61 := FX.tr FX.rf hok_60.2.1
    have hiv_62 := hok_60.1
    refine W.eq (g2 := F0 m 10 ls [.int z_53]) rfl ?_
    refine lv_istore (lv' := [(4, .int z_53), (0, .ref h0), (1, .ref o), (2, .ref w), (3, .int dep)]) hx hb dX4_doTry_10 hl (by decide) rfl (fun ls hl => ?_)
    refine lv_iload hx hb dX4_doTry_12 (lv_at hl 0 rfl) ?_
    refine lv_if_eq (tgt := 23) hx hb dX4_doTry_14 (by decide) (fun c_63 => ?_) (fun c_63 => ?_)
    · refine lv_iload hx hb dX4_doTry_23 (lv_at hl 0 rfl) ?_
      exact K_i hx hb hr hlocks hP hD hK hS hT hE ⟨⟨_, rfl⟩, hF, ⟨u_56, Or.inr (Or.inr (Or.inr (Or.inl ⟨hkd, _, hev_57, Or.inl ⟨Or.inl ((cO_z hok_60.2.2.1).1.mp (hz_53 ▸ c_63)), rfl⟩⟩))), congrArg (fun z => some (Value.int z)) hz_53, hs_59⟩⟩ (by first | exact Nat.le_of_ble_eq_true rfl | (simp only [rm_X4_doTryS]; omega) | omega) (by first | exact Nat.le_of_ble_eq_true rfl | (simp only [rm_X4_doTryS]; omega) | omega) dX4_doTry_25
    · refine lv_iload hx hb dX4_doTry_17 (lv_at hl 0 rfl) ?_
      refine lv_iconst (v := (-1)) hx hb dX4_doTry_19 (by decide) ?_
      refine lv_icmp_ne (tgt := 26) hx hb dX4_doTry_20 (by decide) (fun c_64 => ?_) (fun c_64 => ?_)
      · refine lv_aload_n hx hb dX4_doTry_26 rfl (lv_at hl 1 rfl) ?_
        refine lv_aload_n hx hb dX4_doTry_27 rfl (lv_at hl 2 rfl) ?_
        refine T_get (ci := 5) (C := RX5) (T := TX5) (N := 8) (t := (2, 0, 5, 0)) hx hb hts inw_X4_doTry_5 hown hK hP hT 2 rfl rfl 6 (by decide) (hts (.fieldLink RX4 117 "VatHouse$Step" "other" "LVatHouse$Step;") (List.mem_of_getElem? (i := 2) (by exact rfl))) (fun _ h9 => h9) rfl dX4_doTry_28 (fun v_67 hv_65 hr_66 => ?_)
        rcases hv_65 with rfl | ⟨b_68, rfl, hb9⟩
        · refine lv_aload_n hx hb dX4_doTry_31 rfl (lv_at hl 3 rfl) ?_
          refine lv_iload_n hx hb dX4_doTry_32 rfl (lv_at hl 4 rfl) ?_
          refine K_V ⟨hx, hb, hml, hown, hts⟩ (IHS _ _ x0 cl va B ck V ad dp u_56.2 (sA.2 32 k) h0 .null w dep wk vs _ (hT.sub [1, 3, 4, 5] rfl) (Or.inl rfl) ((hF.1 h0 (hT0.at 0 rfl).1 4 (hT0.at 0 rfl).2 0 (by decide)).trans h_wk) ((hF.1 wk (hT0.at 3 rfl).1 8 (hT0.at 3 rfl).2 0 (by decide)).trans h_vs) hd hs_59 hiv_62 hB (by rw [hfx_61.2.2.1]; exact hc) (by rw [ra_eq (hF.2 cl hSR.1.1.2.2.2.1.1 1 _ _ hSR.1.1.2.2.2.1.2 (by decide))]; exact hcl) (hTR.go hE hF (by decide) (FX.nt hfx_61)) (hLV.go (FX.nt hfx_61)) (hNVs.fx hfx_61) (hr_66.symm.trans ((hF.1 o (hT0.at 1 rfl).1 5 (hT0.at 1 rfl).2 6 (by decide)).trans hSN.2.2.2.2.2.2.1)) (hkl ▸ (hLV k hk).2.2.2.2.1) (hd8)) (cwV 3 hts gX4_doTry_X4_doSteps rfl rfl rfl (by decide +kernel) ⟨(by first | exact Nat.le_of_ble_eq_true rfl | (simp only [rm_X4_doStepsS, rm_X4_doTryS]; omega)), (by first | exact Nat.le_of_ble_eq_true rfl | (simp only [rm_X4_doStepsS, rm_X4_doTryS]; omega))⟩) hP hD hK hS hA hev hT 1 4 rfl rfl rfl rfl hl.1 rfl (Nat.le_of_ble_eq_true rfl) dX4_doTry_33 ⟨(by first | exact Nat.le_of_ble_eq_true rfl | (simp only [rm_X4_doTryS]; omega) | omega), (by first | exact Nat.le_of_ble_eq_true rfl | (simp only [rm_X4_doTryS]; omega) | omega)⟩ (fun r L_69 f_70 H locs hw_71 hP hD hS hT hE1 => ?_)
          have hF := Fr.call hF hE hw_71.2.1 (by decide)
          have hE := hE.tr hE1
          obtain ⟨⟨z_72, rfl⟩, hw_71⟩ := hw_71
          obtain ⟨hfr_73, hex_74⟩ := hw_71
          obtain ⟨u_75, hev_76, hrr_77, hs_78⟩ := hex_74
          have hok_79 := EvR.inv (B := B) (V := V) hev_76 hB hiv_62 (hNVs.fx hfx_61) (by rw [hfx_61.2.2.1]; exact hc) (fun _ => lk.V hLV (hkl ▸ (hLV k hk).2.2.2.2.1)) (fun e9 => absurd rfl e9)
          have hz_72 : z_72 = cO u_75.1 := sv hrr_77
          have hfx_80 := FX.tr hfx_61 hok_79.2.1
          have hiv_81 := hok_79.1
          refine W.eq (g2 := F0 m 36 ls [.int z_72]) rfl ?_
          exact K_i hx hb hr hlocks hP hD hK hS hT hE ⟨⟨_, rfl⟩, hF, ⟨u_75, Or.inr (Or.inr (Or.inr (Or.inl ⟨hkd, _, hev_57, Or.inr ⟨by rintro (e9 | e9); exact c_63 (by rw [hz_53]; exact (cO_z hok_60.2.2.1).1.mpr e9); exact c_64 (by rw [hz_53]; exact (cO_z hok_60.2.2.1).2.mpr e9), (by rw [congrFun (FX.nt hok_60.2.1 32 (by omega)) k]; exact hev_76)⟩⟩))), congrArg (fun z => some (Value.int z)) hz_72, hs_78⟩⟩ (by first | exact Nat.le_of_ble_eq_true rfl | (simp only [rm_X4_doTryS]; omega) | omega) (by first | exact Nat.le_of_ble_eq_true rfl | (simp only [rm_X4_doTryS]; omega) | omega) dX4_doTry_36
        · have hT := hT.add hb9
          refine lv_aload_n hx hb dX4_doTry_31 rfl (lv_at hl 3 rfl) ?_
          refine lv_iload_n hx hb dX4_doTry_32 rfl (lv_at hl 4 rfl) ?_
          refine K_V ⟨hx, hb, hml, hown, hts⟩ (IHS _ _ x0 cl va B ck V ad dp u_56.2 (sA.2 32 k) h0 (.ref b_68) w dep wk vs _ (hT.sub [2, 4, 5, 6] rfl) (Or.inr ⟨_, rfl, hT.at 0 rfl⟩) ((hF.1 h0 (hT0.at 0 rfl).1 4 (hT0.at 0 rfl).2 0 (by decide)).trans h_wk) ((hF.1 wk (hT0.at 3 rfl).1 8 (hT0.at 3 rfl).2 0 (by decide)).trans h_vs) hd hs_59 hiv_62 hB (by rw [hfx_61.2.2.1]; exact hc) (by rw [ra_eq (hF.2 cl hSR.1.1.2.2.2.1.1 1 _ _ hSR.1.1.2.2.2.1.2 (by decide))]; exact hcl) (hTR.go hE hF (by decide) (FX.nt hfx_61)) (hLV.go (FX.nt hfx_61)) (hNVs.fx hfx_61) (hr_66.symm.trans ((hF.1 o (hT0.at 1 rfl).1 5 (hT0.at 1 rfl).2 6 (by decide)).trans hSN.2.2.2.2.2.2.1)) (hkl ▸ (hLV k hk).2.2.2.2.1) (hd8)) (cwV 3 hts gX4_doTry_X4_doSteps rfl rfl rfl (by decide +kernel) ⟨(by first | exact Nat.le_of_ble_eq_true rfl | (simp only [rm_X4_doStepsS, rm_X4_doTryS]; omega)), (by first | exact Nat.le_of_ble_eq_true rfl | (simp only [rm_X4_doStepsS, rm_X4_doTryS]; omega))⟩) hP hD hK hS hA hev hT 2 4 rfl rfl rfl rfl hl.1 rfl (Nat.le_of_ble_eq_true rfl) dX4_doTry_33 ⟨(by first | exact Nat.le_of_ble_eq_true rfl | (simp only [rm_X4_doTryS]; omega) | omega), (by first | exact Nat.le_of_ble_eq_true rfl | (simp only [rm_X4_doTryS]; omega) | omega)⟩ (fun r L_82 f_83 H locs hw_84 hP hD hS hT hE1 => ?_)
          have hF := Fr.call hF hE hw_84.2.1 (by decide)
          have hE := hE.tr hE1
          obtain ⟨⟨z_85, rfl⟩, hw_84⟩ := hw_84
          obtain ⟨hfr_86, hex_87⟩ := hw_84
          obtain ⟨u_88, hev_89, hrr_90, hs_91⟩ := hex_87
          have hok_92 := EvR.inv (B := B) (V := V) hev_89 hB hiv_62 (hNVs.fx hfx_61) (by rw [hfx_61.2.2.1]; exact hc) (fun _ => lk.V hLV (hkl ▸ (hLV k hk).2.2.2.2.1)) (fun e9 => absurd rfl e9)
          have hz_85 : z_85 = cO u_88.1 := sv hrr_90
          have hfx_93 := FX.tr hfx_61 hok_92.2.1
          have hiv_94 := hok_92.1
          refine W.eq (g2 := F0 m 36 ls [.int z_85]) rfl ?_
          exact K_i hx hb hr hlocks hP hD hK hS hT hE ⟨⟨_, rfl⟩, hF, ⟨u_88, Or.inr (Or.inr (Or.inr (Or.inl ⟨hkd, _, hev_57, Or.inr ⟨by rintro (e9 | e9); exact c_63 (by rw [hz_53]; exact (cO_z hok_60.2.2.1).1.mpr e9); exact c_64 (by rw [hz_53]; exact (cO_z hok_60.2.2.1).2.mpr e9), (by rw [congrFun (FX.nt hok_60.2.1 32 (by omega)) k]; exact hev_89)⟩⟩))), congrArg (fun z => some (Value.int z)) hz_85, hs_91⟩⟩ (by first | exact Nat.le_of_ble_eq_true rfl | (simp only [rm_X4_doTryS]; omega) | omega) (by first | exact Nat.le_of_ble_eq_true rfl | (simp only [rm_X4_doTryS]; omega) | omega) dX4_doTry_36
      · refine lv_iload hx hb dX4_doTry_23 (lv_at hl 0 rfl) ?_
        exact K_i hx hb hr hlocks hP hD hK hS hT hE ⟨⟨_, rfl⟩, hF, ⟨u_56, Or.inr (Or.inr (Or.inr (Or.inl ⟨hkd, _, hev_57, Or.inl ⟨Or.inr ((cO_z hok_60.2.2.1).2.mp (hz_53 ▸ c_64)), rfl⟩⟩))), congrArg (fun z => some (Value.int z)) hz_53, hs_59⟩⟩ (by first | exact Nat.le_of_ble_eq_true rfl | (simp only [rm_X4_doTryS]; omega) | omega) (by first | exact Nat.le_of_ble_eq_true rfl | (simp only [rm_X4_doTryS]; omega) | omega) dX4_doTry_25

noncomputable abbrev rm_X4_doWithLastS (j : Nat) (d : Nat) (x0 : Nat) (cl : Nat) (va : Nat → Nat) (B : Int) (ck : Nat) (V : Nat → Prop) (ad : Nat → Nat) (dp : Nat → Nat) (sA : AS) (k : Nat) : Room := { frames := 3 * j + 31, cells := 0, slots := 0, locals := 100 * j + 533 }
set_option maxHeartbeats 800000 in
set_option maxRecDepth 100000 in
theorem t_X4_doWithLastS (l : Launch) (dC : Nat → ClassId) (dI : Nat → Nat → Nat) (sa : Nat → Nat) (hlt : l.stackTraces = false) (g : Nat → Nat) (L : List Nat) (f : Nat → va_E) (j : Nat) (d : Nat) (x0 : Nat) (cl : Nat) (va : Nat → Nat) (B : Int) (ck : Nat) (V : Nat → Prop) (ad : Nat → Nat) (dp : Nat → Nat) (sA : AS) (k : Nat) (h0 : Nat) (o : Nat) (w : Nat) (dep : Int32) (wk : Nat) (vs : Nat) (sz : Nat) (hT : TP g L f [(h0, (0, 4, 0)), (o, (0, 5, 0)), (w, (0, 0, 0)), (wk, (0, 8, 0)), (vs, (2, g 2, 6))]) (h_wk : rd f h0 0 = .ref wk) (h_vs : rd f wk 0 = .ref vs) (hd : dep = nI d) (hdj : d + j = 9) (hSR : SR g L f (x0, wk, vs, cl, h0, va) sA) (hIV : IV B sA) (hB : B ≤ 10000000) (hc : (ck : Int) < (sA.1 12).toInt) (hcl : ra f cl ck = some w) (hTR : TRS V ad L f sA) (hLV : LVS V dp sA) (hNVs : NV V sA) (hk : V k) (ho : o = ad k) (hkl : dp k + 1 = d) (h7 : ¬ sA.2 26 k < 7) (hkd : ¬ sA.2 26 k = 7 ∧ ¬ sA.2 26 k = 8 ∧ ¬ sA.2 26 k = 9 ∧ ¬ sA.2 26 k = 10) (IHS : ∀ (L : List Nat) (f : Nat → va_E) (x0 : Nat) (cl : Nat) (va : Nat → Nat) (B : Int) (ck : Nat) (V : Nat → Prop) (ad : Nat → Nat) (dp : Nat → Nat) (sA : AS) (x : Int32) (h0 : Nat) (fs : Value) (w : Nat) (dep : Int32) (wk : Nat) (vs : Nat) (sz : Nat) (hT : TP g L f [(h0, (0, 4, 0)), (w, (0, 0, 0)), (wk, (0, 8, 0)), (vs, (2, g 2, 6))]) (hn_fs : okv L f (2, 0, 5, 0) fs) (h_wk : rd f h0 0 = .ref wk) (h_vs : rd f wk 0 = .ref vs) (hd : dep = nI d) (hSR : SR g L f (x0, wk, vs, cl, h0, va) sA) (hIV : IV B sA) (hB : B ≤ 10000000) (hc : (ck : Int) < (sA.1 12).toInt) (hcl : ra f cl ck = some w) (hTR : TRS V ad L f sA) (hLV : LVS V dp sA) (hNVs : NV V sA) (hfs : fs = lkr ad x) (hlk : lk V dp d x) (hd8 : d ≤ 8), KC l dC dI sa g yX4_doSteps wsX4_doSteps (rm_X4_doStepsS j d x0 cl va B ck V ad dp sA x) [.ref h0, fs, .ref w, .int dep] L f sz (fun r L' f' => (∃ z : Int32, r = some (.int z)) ∧ Fr [(0, 2), (0, 3), (0, 6), (0, 7), (7, 1), (7, 2), (7, 3), (7, 4), (7, 5), (7, 6), (7, 7), (8, 1), (8, 2), (4, 4), (4, 5), (4, 6), (4, 7)] L f f' ∧ (∃ u : Int32 × AS, EvR 0 x 0 ck sA u ∧ r = some (.int (cO u.1)) ∧ SR g L' f' (x0, wk, vs, cl, h0, va) u.2)) 0 0) : KC l dC dI sa g yX4_doWithLast wsX4_doWithLast (rm_X4_doWithLastS j d x0 cl va B ck V ad dp sA k) [.ref h0, .ref o, .ref w, .int dep] L f sz (fun r L' f' => (∃ z : Int32, r = some (.int z)) ∧ Fr [(0, 2), (0, 3), (0, 6), (0, 7), (7, 1), (7, 2), (7, 3), (7, 4), (7, 5), (7, 6), (7, 7), (8, 1), (8, 2), (4, 4), (4, 5), (4, 6), (4, 7)] L f f' ∧ (∃ u : Int32 × AS, BR k ck sA u ∧ r = some (.int (cO u.1)) ∧ SR g L' f' (x0, wk, vs, cl, h0, va) u.2)) 0 0 := by
  refine CT.start (cc := cX4_doWithLast) (maxL := 6) (ret := (some .int)) (by decide) rfl (Nat.le_of_ble_eq_true rfl) ?_
  intro p e s m below meth c ls hst hP hK hD hev hS hl
  obtain ⟨hx, hb, hr, hml, hts, hown, hlocks, hin⟩ := hst
  have hown : s.vm.findClass RX4 = some m.cls := hown
  have hin : meth.name = yX4_doWithLast.name := hin
  have hA : ∀ q : Nat, s.heap.size ≤ q → va_A (va_pl L f) s.heap.size q := fun _ h => Or.inr h
  have hE : Ext L f L f := Ext.rf
  have hF : Fr [(0, 2), (0, 3), (0, 6), (0, 7), (7, 1), (7, 2), (7, 3), (7, 4), (7, 5), (7, 6), (7, 7), (8, 1), (8, 2), (4, 4), (4, 5), (4, 6), (4, 7)] L f f := Fr.rf
  have hl : lv_has ls 6 [(0, .ref h0), (1, .ref o), (2, .ref w), (3, .int dep)] := hl
  have hT0 := hT
  have hSN : SN f ad sA o k := by rw [ho]; exact (hTR k hk).2
  have hd8 : d ≤ 8 := by have h9 := (hLV k hk).2.2.1 (kd_7 (hNVs k hk).1.1 h7); omega
  refine lv_aload_n hx hb dX4_doWithLast_0 rfl (lv_at hl 0 rfl) ?_
  refine lv_aload_n hx hb dX4_doWithLast_1 rfl (lv_at hl 1 rfl) ?_
  refine T_get (ci := 5) (C := RX5) (T := TX5) (N := 8) (t := (2, 0, 5, 0)) hx hb hts inw_X4_doWithLast_5 hown hK hP hT 1 rfl rfl 5 (by decide) (hts (.fieldLink RX4 114 "VatHouse$Step" "block" "LVatHouse$Step;") (List.mem_of_getElem? (i := 1) (by exact rfl))) (fun _ h9 => h9) rfl dX4_doWithLast_2 (fun v_3 hv_1 hr_2 => ?_)
  rcases hv_1 with rfl | ⟨b_4, rfl, hb9⟩
  · refine lv_aload_n hx hb dX4_doWithLast_5 rfl (lv_at hl 2 rfl) ?_
    refine lv_iload_n hx hb dX4_doWithLast_6 rfl (lv_at hl 3 rfl) ?_
    refine K_V ⟨hx, hb, hml, hown, hts⟩ (IHS _ _ x0 cl va B ck V ad dp sA (sA.2 31 k) h0 .null w dep wk vs _ (hT.sub [0, 2, 3, 4] rfl) (Or.inl rfl) ((hF.1 h0 (hT0.at 0 rfl).1 4 (hT0.at 0 rfl).2 0 (by decide)).trans h_wk) ((hF.1 wk (hT0.at 3 rfl).1 8 (hT0.at 3 rfl).2 0 (by decide)).trans h_vs) hd hSR hIV hB hc (by rw [ra_eq (hF.2 cl hSR.1.1.2.2.2.1.1 1 _ _ hSR.1.1.2.2.2.1.2 (by decide))]; exact hcl) (hTR.go hE hF (by decide) (FX.nt FX.rf)) (hLV.go (FX.nt FX.rf)) (hNVs.fx FX.rf) (hr_2.symm.trans ((hF.1 o (hT0.at 1 rfl).1 5 (hT0.at 1 rfl).2 5 (by decide)).trans hSN.2.2.2.2.2.1)) (hkl ▸ (hLV k hk).2.2.2.1) (hd8)) (cwV 3 hts gX4_doWithLast_X4_doSteps rfl rfl rfl (by decide +kernel) ⟨(by first | exact Nat.le_of_ble_eq_true rfl | (simp only [rm_X4_doStepsS, rm_X4_doWithLastS]; omega)), (by first | exact Nat.le_of_ble_eq_true rfl | (simp only [rm_X4_doStepsS, rm_X4_doWithLastS]; omega))⟩) hP hD hK hS hA hev hT 0 4 rfl rfl rfl rfl hl.1 rfl (Nat.le_of_ble_eq_true rfl) dX4_doWithLast_7 ⟨(by first | exact Nat.le_of_ble_eq_true rfl | (simp only [rm_X4_doWithLastS]; omega) | omega), (by first | exact Nat.le_of_ble_eq_true rfl | (simp only [rm_X4_doWithLastS]; omega) | omega)⟩ (fun r L_5 f_6 H locs hw_7 hP hD hS hT hE1 => ?_)
    have hF := Fr.call hF hE hw_7.2.1 (by decide)
    have hE := hE.tr hE1
    obtain ⟨⟨z_8, rfl⟩, hw_7⟩ := hw_7
    obtain ⟨hfr_9, hex_10⟩ := hw_7
    obtain ⟨u_11, hev_12, hrr_13, hs_14⟩ := hex_10
    have hok_15 := EvR.inv (B := B) (V := V) hev_12 hB hIV (hNVs.fx FX.rf) hc (fun _ => lk.V hLV (hkl ▸ (hLV k hk).2.2.2.1)) (fun e9 => absurd rfl e9)
    have hz_8 : z_8 = cO u_11.1 := sv hrr_13
    have hfx_16 := FX.tr FX.rf hok_15.2.1
    have hiv_17 := hok_15.1
    refine W.eq (g2 := F0 m 10 ls [.int z_8]) rfl ?_
    refine lv_istore (lv' := [(4, .int z_8), (0, .ref h0), (1, .ref o), (2, .ref w), (3, .int dep)]) hx hb dX4_doWithLast_10 hl (by decide) rfl (fun ls hl => ?_)
    refine lv_iload hx hb dX4_doWithLast_12 (lv_at hl 0 rfl) ?_
    refine lv_iconst (v := (-1)) hx hb dX4_doWithLast_14 (by decide) ?_
    refine lv_icmp_ne (tgt := 20) hx hb dX4_doWithLast_15 (by decide) (fun c_18 => ?_) (fun c_18 => ?_)
    · refine lv_aload_n hx hb dX4_doWithLast_20 rfl (lv_at hl 1 rfl) ?_
      refine lv_aload_n hx hb dX4_doWithLast_21 rfl (lv_at hl 2 rfl) ?_
      refine T_get (ci := 5) (C := RX5) (T := TX5) (N := 8) (t := (2, 0, 5, 0)) hx hb hts inw_X4_doWithLast_5 hown hK hP hT 1 rfl rfl 6 (by decide) (hts (.fieldLink RX4 117 "VatHouse$Step" "other" "LVatHouse$Step;") (List.mem_of_getElem? (i := 2) (by exact rfl))) (fun _ h9 => h9) rfl dX4_doWithLast_22 (fun v_21 hv_19 hr_20 => ?_)
      rcases hv_19 with rfl | ⟨b_22, rfl, hb9⟩
      · refine lv_aload_n hx hb dX4_doWithLast_25 rfl (lv_at hl 3 rfl) ?_
        refine lv_iload_n hx hb dX4_doWithLast_26 rfl (lv_at hl 4 rfl) ?_
        refine K_V ⟨hx, hb, hml, hown, hts⟩ (IHS _ _ x0 cl va B ck V ad dp u_11.2 (sA.2 32 k) h0 .null w dep wk vs _ (hT.sub [0, 2, 3, 4] rfl) (Or.inl rfl) ((hF.1 h0 (hT0.at 0 rfl).1 4 (hT0.at 0 rfl).2 0 (by decide)).trans h_wk) ((hF.1 wk (hT0.at 3 rfl).1 8 (hT0.at 3 rfl).2 0 (by decide)).trans h_vs) hd hs_14 hiv_17 hB (by rw [hfx_16.2.2.1]; exact hc) (by rw [ra_eq (hF.2 cl hSR.1.1.2.2.2.1.1 1 _ _ hSR.1.1.2.2.2.1.2 (by decide))]; exact hcl) (hTR.go hE hF (by decide) (FX.nt hfx_16)) (hLV.go (FX.nt hfx_16)) (hNVs.fx hfx_16) (hr_20.symm.trans ((hF.1 o (hT0.at 1 rfl).1 5 (hT0.at 1 rfl).2 6 (by decide)).trans hSN.2.2.2.2.2.2.1)) (hkl ▸ (hLV k hk).2.2.2.2.1) (hd8)) (cwV 3 hts gX4_doWithLast_X4_doSteps rfl rfl rfl (by decide +kernel) ⟨(by first | exact Nat.le_of_ble_eq_true rfl | (simp only [rm_X4_doStepsS, rm_X4_doWithLastS]; omega)), (by first | exact Nat.le_of_ble_eq_true rfl | (simp only [rm_X4_doStepsS, rm_X4_doWithLastS]; omega))⟩) hP hD hK hS hA hev hT 0 4 rfl rfl rfl rfl hl.1 rfl (Nat.le_of_ble_eq_true rfl) dX4_doWithLast_27 ⟨(by first | exact Nat.le_of_ble_eq_true rfl | (simp only [rm_X4_doWithLastS]; omega) | omega), (by first | exact Nat.le_of_ble_eq_true rfl | (simp only [rm_X4_doWithLastS]; omega) | omega)⟩ (fun r L_23 f_24 H locs hw_25 hP hD hS hT hE1 => ?_)
        have hF := Fr.call hF hE hw_25.2.1 (by decide)
        have hE := hE.tr hE1
        obtain ⟨⟨z_26, rfl⟩, hw_25⟩ := hw_25
        obtain ⟨hfr_27, hex_28⟩ := hw_25
        obtain ⟨u_29, hev_30, hrr_31, hs_32⟩ := hex_28
        have hok_33 := EvR.inv (B := B) (V := V) hev_30 hB hiv_17 (hNVs.fx hfx_16) (by rw [hfx_16.2.2.1]; exact hc) (fun _ => lk.V hLV (hkl ▸ (hLV k hk).2.2.2.2.1)) (fun e9 => absurd rfl e9)
        have hz_26 : z_26 = cO u_29.1 := sv hrr_31
        have hfx_34 := FX.tr hfx_16 hok_33.2.1
        have hiv_35 := hok_33.1
        refine W.eq (g2 := F0 m 30 ls [.int z_26]) rfl ?_
        refine lv_istore (lv' := [(5, .int z_26), (4, .int z_8), (0, .ref h0), (1, .ref o), (2, .ref w), (3, .int dep)]) hx hb dX4_doWithLast_30 hl (by decide) rfl (fun ls hl => ?_)
        refine lv_iload hx hb dX4_doWithLast_32 (lv_at hl 0 rfl) ?_
        refine lv_if_ne (tgt := 42) hx hb dX4_doWithLast_34 (by decide) (fun c_36 => ?_) (fun c_36 => ?_)
        · refine lv_iload hx hb dX4_doWithLast_42 (lv_at hl 0 rfl) ?_
          exact K_i hx hb hr hlocks hP hD hK hS hT hE ⟨⟨_, rfl⟩, hF, ⟨_, Or.inr (Or.inr (Or.inr (Or.inr ⟨hkd, _, hev_12, Or.inr ⟨fun e9 => c_18 (by rw [hz_8]; exact (cO_z hok_15.2.2.1).2.mpr e9), _, (by rw [congrFun (FX.nt hok_15.2.1 32 (by omega)) k]; exact hev_30), rfl⟩⟩))), by show _ = some (Value.int (cO (if u_29.1 = 0 then u_11.1 else u_29.1))); rw [if_neg (fun e9 => c_36 (by rw [hz_26]; exact (cO_z hok_33.2.2.1).1.mpr e9)), hz_26], hs_32⟩⟩ (by first | exact Nat.le_of_ble_eq_true rfl | (simp only [rm_X4_doWithLastS]; omega) | omega) (by first | exact Nat.le_of_ble_eq_true rfl | (simp only [rm_X4_doWithLastS]; omega) | omega) dX4_doWithLast_44
        · refine lv_iload hx hb dX4_doWithLast_37 (lv_at hl 1 rfl) ?_
          refine lv_goto (tgt := 44) hx hb dX4_doWithLast_39 (by decide) ?_
          exact K_i hx hb hr hlocks hP hD hK hS hT hE ⟨⟨_, rfl⟩, hF, ⟨_, Or.inr (Or.inr (Or.inr (Or.inr ⟨hkd, _, hev_12, Or.inr ⟨fun e9 => c_18 (by rw [hz_8]; exact (cO_z hok_15.2.2.1).2.mpr e9), _, (by rw [congrFun (FX.nt hok_15.2.1 32 (by omega)) k]; exact hev_30), rfl⟩⟩))), by show _ = some (Value.int (cO (if u_29.1 = 0 then u_11.1 else u_29.1))); rw [if_pos ((cO_z hok_33.2.2.1).1.mp (hz_26 ▸ c_36)), hz_8], hs_32⟩⟩ (by first | exact Nat.le_of_ble_eq_true rfl | (simp only [rm_X4_doWithLastS]; omega) | omega) (by first | exact Nat.le_of_ble_eq_true rfl | (simp only [rm_X4_doWithLastS]; omega) | omega) dX4_doWithLast_44
      · have hT := hT.add hb9
        refine lv_aload_n hx hb dX4_doWithLast_25 rfl (lv_at hl 3 rfl) ?_
        refine lv_iload_n hx hb dX4_doWithLast_26 rfl (lv_at hl 4 rfl) ?_
        refine K_V ⟨hx, hb, hml, hown, hts⟩ (IHS _ _ x0 cl va B ck V ad dp u_11.2 (sA.2 32 k) h0 (.ref b_22) w dep wk vs _ (hT.sub [1, 3, 4, 5] rfl) (Or.inr ⟨_, rfl, hT.at 0 rfl⟩) ((hF.1 h0 (hT0.at 0 rfl).1 4 (hT0.at 0 rfl).2 0 (by decide)).trans h_wk) ((hF.1 wk (hT0.at 3 rfl).1 8 (hT0.at 3 rfl).2 0 (by decide)).trans h_vs) hd hs_14 hiv_17 hB (by rw [hfx_16.2.2.1]; exact hc) (by rw [ra_eq (hF.2 cl hSR.1.1.2.2.2.1.1 1 _ _ hSR.1.1.2.2.2.1.2 (by decide))]; exact hcl) (hTR.go hE hF (by decide) (FX.nt hfx_16)) (hLV.go (FX.nt hfx_16)) (hNVs.fx hfx_16) (hr_20.symm.trans ((hF.1 o (hT0.at 1 rfl).1 5 (hT0.at 1 rfl).2 6 (by decide)).trans hSN.2.2.2.2.2.2.1)) (hkl ▸ (hLV k hk).2.2.2.2.1) (hd8)) (cwV 3 hts gX4_doWithLast_X4_doSteps rfl rfl rfl (by decide +kernel) ⟨(by first | exact Nat.le_of_ble_eq_true rfl | (simp only [rm_X4_doStepsS, rm_X4_doWithLastS]; omega)), (by first | exact Nat.le_of_ble_eq_true rfl | (simp only [rm_X4_doStepsS, rm_X4_doWithLastS]; omega))⟩) hP hD hK hS hA hev hT 1 4 rfl rfl rfl rfl hl.1 rfl (Nat.le_of_ble_eq_true rfl) dX4_doWithLast_27 ⟨(by first | exact Nat.le_of_ble_eq_true rfl | (simp only [rm_X4_doWithLastS]; omega) | omega), (by first | exact Nat.le_of_ble_eq_true rfl | (simp only [rm_X4_doWithLastS]; omega) | omega)⟩ (fun r L_37 f_38 H locs hw_39 hP hD hS hT hE1 => ?_)
        have hF := Fr.call hF hE hw_39.2.1 (by decide)
        have hE := hE.tr hE1
        obtain ⟨⟨z_40, rfl⟩, hw_39⟩ := hw_39
        obtain ⟨hfr_41, hex_42⟩ := hw_39
        obtain ⟨u_43, hev_44, hrr_45, hs_46⟩ := hex_42
        have hok_47 := EvR.inv (B := B) (V := V) hev_44 hB hiv_17 (hNVs.fx hfx_16) (by rw [hfx_16.2.2.1]; exact hc) (fun _ => lk.V hLV (hkl ▸ (hLV k hk).2.2.2.2.1)) (fun e9 => absurd rfl e9)
        have hz_40 : z_40 = cO u_43.1 := sv hrr_45
        have hfx_48 := FX.tr hfx_16 hok_47.2.1
        have hiv_49 := hok_47.1
        refine W.eq (g2 := F0 m 30 ls [.int z_40]) rfl ?_
        refine lv_istore (lv' := [(5, .int z_40), (4, .int z_8), (0, .ref h0), (1, .ref o), (2, .ref w), (3, .int dep)]) hx hb dX4_doWithLast_30 hl (by decide) rfl (fun ls hl => ?_)
        refine lv_iload hx hb dX4_doWithLast_32 (lv_at hl 0 rfl) ?_
        refine lv_if_ne (tgt := 42) hx hb dX4_doWithLast_34 (by decide) (fun c_50 => ?_) (fun c_50 => ?_)
        · refine lv_iload hx hb dX4_doWithLast_42 (lv_at hl 0 rfl) ?_
          exact K_i hx hb hr hlocks hP hD hK hS hT hE ⟨⟨_, rfl⟩, hF, ⟨_, Or.inr (Or.inr (Or.inr (Or.inr ⟨hkd, _, hev_12, Or.inr ⟨fun e9 => c_18 (by rw [hz_8]; exact (cO_z hok_15.2.2.1).2.mpr e9), _, (by rw [congrFun (FX.nt hok_15.2.1 32 (by omega)) k]; exact hev_44), rfl⟩⟩))), by show _ = some (Value.int (cO (if u_43.1 = 0 then u_11.1 else u_43.1))); rw [if_neg (fun e9 => c_50 (by rw [hz_40]; exact (cO_z hok_47.2.2.1).1.mpr e9)), hz_40], hs_46⟩⟩ (by first | exact Nat.le_of_ble_eq_true rfl | (simp only [rm_X4_doWithLastS]; omega) | omega) (by first | exact Nat.le_of_ble_eq_true rfl | (simp only [rm_X4_doWithLastS]; omega) | omega) dX4_doWithLast_44
        · refine lv_iload hx hb dX4_doWithLast_37 (lv_at hl 1 rfl) ?_
          refine lv_goto (tgt := 44) hx hb dX4_doWithLast_39 (by decide) ?_
          exact K_i hx hb hr hlocks hP hD hK hS hT hE ⟨⟨_, rfl⟩, hF, ⟨_, Or.inr (Or.inr (Or.inr (Or.inr ⟨hkd, _, hev_12, Or.inr ⟨fun e9 => c_18 (by rw [hz_8]; exact (cO_z hok_15.2.2.1).2.mpr e9), _, (by rw [congrFun (FX.nt hok_15.2.1 32 (by omega)) k]; exact hev_44), rfl⟩⟩))), by show _ = some (Value.int (cO (if u_43.1 = 0 then u_11.1 else u_43.1))); rw [if_pos ((cO_z hok_47.2.2.1).1.mp (hz_40 ▸ c_50)), hz_8], hs_46⟩⟩ (by first | exact Nat.le_of_ble_eq_true rfl | (simp only [rm_X4_doWithLastS]; omega) | omega) (by first | exact Nat.le_of_ble_eq_true rfl | (simp only [rm_X4_doWithLastS]; omega) | omega) dX4_doWithLast_44
    · refine lv_iconst (v := (-1)) hx hb dX4_doWithLast_18 (by decide) ?_
      exact K_i hx hb hr hlocks hP hD hK hS hT hE ⟨⟨_, rfl⟩, hF, ⟨u_11, Or.inr (Or.inr (Or.inr (Or.inr ⟨hkd, _, hev_12, Or.inl ⟨(cO_z hok_15.2.2.1).2.mp (hz_8 ▸ c_18), rfl⟩⟩))), by rw [show cO u_11.1 = -1 from hz_8.symm.trans c_18], hs_14⟩⟩ (by first | exact Nat.le_of_ble_eq_true rfl | (simp only [rm_X4_doWithLastS]; omega) | omega) (by first | exact Nat.le_of_ble_eq_true rfl | (simp only [rm_X4_doWithLastS]; omega) | omega) dX4_doWithLast_19
  · have hT := hT.add hb9
    refine lv_aload_n hx hb dX4_doWithLast_5 rfl (lv_at hl 2 rfl) ?_
    refine lv_iload_n hx hb dX4_doWithLast_6 rfl (lv_at hl 3 rfl) ?_
    refine K_V ⟨hx, hb, hml, hown, hts⟩ (IHS _ _ x0 cl va B ck V ad dp sA (sA.2 31 k) h0 (.ref b_4) w dep wk vs _ (hT.sub [1, 3, 4, 5] rfl) (Or.inr ⟨_, rfl, hT.at 0 rfl⟩) ((hF.1 h0 (hT0.at 0 rfl).1 4 (hT0.at 0 rfl).2 0 (by decide)).trans h_wk) ((hF.1 wk (hT0.at 3 rfl).1 8 (hT0.at 3 rfl).2 0 (by decide)).trans h_vs) hd hSR hIV hB hc (by rw [ra_eq (hF.2 cl hSR.1.1.2.2.2.1.1 1 _ _ hSR.1.1.2.2.2.1.2 (by decide))]; exact hcl) (hTR.go hE hF (by decide) (FX.nt FX.rf)) (hLV.go (FX.nt FX.rf)) (hNVs.fx FX.rf) (hr_2.symm.trans ((hF.1 o (hT0.at 1 rfl).1 5 (hT0.at 1 rfl).2 5 (by decide)).trans hSN.2.2.2.2.2.1)) (hkl ▸ (hLV k hk).2.2.2.1) (hd8)) (cwV 3 hts gX4_doWithLast_X4_doSteps rfl rfl rfl (by decide +kernel) ⟨(by first | exact Nat.le_of_ble_eq_true rfl | (simp only [rm_X4_doStepsS, rm_X4_doWithLastS]; omega)), (by first | exact Nat.le_of_ble_eq_true rfl | (simp only [rm_X4_doStepsS, rm_X4_doWithLastS]; omega))⟩) hP hD hK hS hA hev hT 1 4 rfl rfl rfl rfl hl.1 rfl (Nat.le_of_ble_eq_true rfl) dX4_doWithLast_7 ⟨(by first | exact Nat.le_of_ble_eq_true rfl | (simp only [rm_X4_doWithLastS]; omega) | omega), (by first | exact Nat.le_of_ble_eq_true rfl | (simp only [rm_X4_doWithLastS]; omega) | omega)⟩ (fun r L_51 f_52 H locs hw_53 hP hD hS hT hE1 => ?_)
    have hF := Fr.call hF hE hw_53.2.1 (by decide)
    have hE := hE.tr hE1
    obtain ⟨⟨z_54, rfl⟩, hw_53⟩ := hw_53
    obtain ⟨hfr_55, hex_56⟩ := hw_53
    obtain ⟨u_57, hev_58, hrr_59, hs_60⟩ := hex_56
    have hok_61 := EvR.inv (B := B) (V := V) hev_58 hB hIV (hNVs.fx FX.rf) hc (fun _ => lk.V hLV (hkl ▸ (hLV k hk).2.2.2.1)) (fun e9 => absurd rfl e9)
    have hz_54 : z_54 = cO u_57.1 := sv hrr_59
    have hfx_62 := FX.tr FX.rf hok_61.2.1
    have hiv_63 := hok_61.1
    refine W.eq (g2 := F0 m 10 ls [.int z_54]) rfl ?_
    refine lv_istore (lv' := [(4, .int z_54), (0, .ref h0), (1, .ref o), (2, .ref w), (3, .int dep)]) hx hb dX4_doWithLast_10 hl (by decide) rfl (fun ls hl => ?_)
    refine lv_iload hx hb dX4_doWithLast_12 (lv_at hl 0 rfl) ?_
    refine lv_iconst (v := (-1)) hx hb dX4_doWithLast_14 (by decide) ?_
    refine lv_icmp_ne (tgt := 20) hx hb dX4_doWithLast_15 (by decide) (fun c_64 => ?_) (fun c_64 => ?_)
    · refine lv_aload_n hx hb dX4_doWithLast_20 rfl (lv_at hl 1 rfl) ?_
      refine lv_aload_n hx hb dX4_doWithLast_21 rfl (lv_at hl 2 rfl) ?_
      refine T_get (ci := 5) (C := RX5) (T := TX5) (N := 8) (t := (2, 0, 5, 0)) hx hb hts inw_X4_doWithLast_5 hown hK hP hT 2 rfl rfl 6 (by decide) (hts (.fieldLink RX4 117 "VatHouse$Step" "other" "LVatHouse$Step;") (List.mem_of_getElem? (i := 2) (by exact rfl))) (fun _ h9 => h9) rfl dX4_doWithLast_22 (fun v_67 hv_65 hr_66 => ?_)
      rcases hv_65 with rfl | ⟨b_68, rfl, hb9⟩
      · refine lv_aload_n hx hb dX4_doWithLast_25 rfl (lv_at hl 3 rfl) ?_
        refine lv_iload_n hx hb dX4_doWithLast_26 rfl (lv_at hl 4 rfl) ?_
        refine K_V ⟨hx, hb, hml, hown, hts⟩ (IHS _ _ x0 cl va B ck V ad dp u_57.2 (sA.2 32 k) h0 .null w dep wk vs _ (hT.sub [1, 3, 4, 5] rfl) (Or.inl rfl) ((hF.1 h0 (hT0.at 0 rfl).1 4 (hT0.at 0 rfl).2 0 (by decide)).trans h_wk) ((hF.1 wk (hT0.at 3 rfl).1 8 (hT0.at 3 rfl).2 0 (by decide)).trans h_vs) hd hs_60 hiv_63 hB (by rw [hfx_62.2.2.1]; exact hc) (by rw [ra_eq (hF.2 cl hSR.1.1.2.2.2.1.1 1 _ _ hSR.1.1.2.2.2.1.2 (by decide))]; exact hcl) (hTR.go hE hF (by decide) (FX.nt hfx_62)) (hLV.go (FX.nt hfx_62)) (hNVs.fx hfx_62) (hr_66.symm.trans ((hF.1 o (hT0.at 1 rfl).1 5 (hT0.at 1 rfl).2 6 (by decide)).trans hSN.2.2.2.2.2.2.1)) (hkl ▸ (hLV k hk).2.2.2.2.1) (hd8)) (cwV 3 hts gX4_doWithLast_X4_doSteps rfl rfl rfl (by decide +kernel) ⟨(by first | exact Nat.le_of_ble_eq_true rfl | (simp only [rm_X4_doStepsS, rm_X4_doWithLastS]; omega)), (by first | exact Nat.le_of_ble_eq_true rfl | (simp only [rm_X4_doStepsS, rm_X4_doWithLastS]; omega))⟩) hP hD hK hS hA hev hT 1 4 rfl rfl rfl rfl hl.1 rfl (Nat.le_of_ble_eq_true rfl) dX4_doWithLast_27 ⟨(by first | exact Nat.le_of_ble_eq_true rfl | (simp only [rm_X4_doWithLastS]; omega) | omega), (by first | exact Nat.le_of_ble_eq_true rfl | (simp only [rm_X4_doWithLastS]; omega) | omega)⟩ (fun r L_69 f_70 H locs hw_71 hP hD hS hT hE1 => ?_)
        have hF := Fr.call hF hE hw_71.2.1 (by decide)
        have hE := hE.tr hE1
        obtain ⟨⟨z_72, rfl⟩, hw_71⟩ := hw_71
        obtain ⟨hfr_73, hex_74⟩ := hw_71
        obtain ⟨u_75, hev_76, hrr_77, hs_78⟩ := hex_74
        have hok_79 := EvR.inv (B := B) (V := V) hev_76 hB hiv_63 (hNVs.fx hfx_62) (by rw [hfx_62.2.2.1]; exact hc) (fun _ => lk.V hLV (hkl ▸ (hLV k hk).2.2.2.2.1)) (fun e9 => absurd rfl e9)
        have hz_72 : z_72 = cO u_75.1 := sv hrr_77
        have hfx_80 := FX.tr hfx_62 hok_79.2.1
        have hiv_81 := hok_79.1
        refine W.eq (g2 := F0 m 30 ls [.int z_72]) rfl ?_
        refine lv_istore (lv' := [(5, .int z_72), (4, .int z_54), (0, .ref h0), (1, .ref o), (2, .ref w), (3, .int dep)]) hx hb dX4_doWithLast_30 hl (by decide) rfl (fun ls hl => ?_)
        refine lv_iload hx hb dX4_doWithLast_32 (lv_at hl 0 rfl) ?_
        refine lv_if_ne (tgt := 42) hx hb dX4_doWithLast_34 (by decide) (fun c_82 => ?_) (fun c_82 => ?_)
        · refine lv_iload hx hb dX4_doWithLast_42 (lv_at hl 0 rfl) ?_
          exact K_i hx hb hr hlocks hP hD hK hS hT hE ⟨⟨_, rfl⟩, hF, ⟨_, Or.inr (Or.inr (Or.inr (Or.inr ⟨hkd, _, hev_58, Or.inr ⟨fun e9 => c_64 (by rw [hz_54]; exact (cO_z hok_61.2.2.1).2.mpr e9), _, (by rw [congrFun (FX.nt hok_61.2.1 32 (by omega)) k]; exact hev_76), rfl⟩⟩))), by show _ = some (Value.int (cO (if u_75.1 = 0 then u_57.1 else u_75.1))); rw [if_neg (fun e9 => c_82 (by rw [hz_72]; exact (cO_z hok_79.2.2.1).1.mpr e9)), hz_72], hs_78⟩⟩ (by first | exact Nat.le_of_ble_eq_true rfl | (simp only [rm_X4_doWithLastS]; omega) | omega) (by first | exact Nat.le_of_ble_eq_true rfl | (simp only [rm_X4_doWithLastS]; omega) | omega) dX4_doWithLast_44
        · refine lv_iload hx hb dX4_doWithLast_37 (lv_at hl 1 rfl) ?_
          refine lv_goto (tgt := 44) hx hb dX4_doWithLast_39 (by decide) ?_
          exact K_i hx hb hr hlocks hP hD hK hS hT hE ⟨⟨_, rfl⟩, hF, ⟨_, Or.inr (Or.inr (Or.inr (Or.inr ⟨hkd, _, hev_58, Or.inr ⟨fun e9 => c_64 (by rw [hz_54]; exact (cO_z hok_61.2.2.1).2.mpr e9), _, (by rw [congrFun (FX.nt hok_61.2.1 32 (by omega)) k]; exact hev_76), rfl⟩⟩))), by show _ = some (Value.int (cO (if u_75.1 = 0 then u_57.1 else u_75.1))); rw [if_pos ((cO_z hok_79.2.2.1).1.mp (hz_72 ▸ c_82)), hz_54], hs_78⟩⟩ (by first | exact Nat.le_of_ble_eq_true rfl | (simp only [rm_X4_doWithLastS]; omega) | omega) (by first | exact Nat.le_of_ble_eq_true rfl | (simp only [rm_X4_doWithLastS]; omega) | omega) dX4_doWithLast_44
      · have hT := hT.add hb9
        refine lv_aload_n hx hb dX4_doWithLast_25 rfl (lv_at hl 3 rfl) ?_
        refine lv_iload_n hx hb dX4_doWithLast_26 rfl (lv_at hl 4 rfl) ?_
        refine K_V ⟨hx, hb, hml, hown, hts⟩ (IHS _ _ x0 cl va B ck V ad dp u_57.2 (sA.2 32 k) h0 (.ref b_68) w dep wk vs _ (hT.sub [2, 4, 5, 6] rfl) (Or.inr ⟨_, rfl, hT.at 0 rfl⟩) ((hF.1 h0 (hT0.at 0 rfl).1 4 (hT0.at 0 rfl).2 0 (by decide)).trans h_wk) ((hF.1 wk (hT0.at 3 rfl).1 8 (hT0.at 3 rfl).2 0 (by decide)).trans h_vs) hd hs_60 hiv_63 hB (by rw [hfx_62.2.2.1]; exact hc) (by rw [ra_eq (hF.2 cl hSR.1.1.2.2.2.1.1 1 _ _ hSR.1.1.2.2.2.1.2 (by decide))]; exact hcl) (hTR.go hE hF (by decide) (FX.nt hfx_62)) (hLV.go (FX.nt hfx_62)) (hNVs.fx hfx_62) (hr_66.symm.trans ((hF.1 o (hT0.at 1 rfl).1 5 (hT0.at 1 rfl).2 6 (by decide)).trans hSN.2.2.2.2.2.2.1)) (hkl ▸ (hLV k hk).2.2.2.2.1) (hd8)) (cwV 3 hts gX4_doWithLast_X4_doSteps rfl rfl rfl (by decide +kernel) ⟨(by first | exact Nat.le_of_ble_eq_true rfl | (simp only [rm_X4_doStepsS, rm_X4_doWithLastS]; omega)), (by first | exact Nat.le_of_ble_eq_true rfl | (simp only [rm_X4_doStepsS, rm_X4_doWithLastS]; omega))⟩) hP hD hK hS hA hev hT 2 4 rfl rfl rfl rfl hl.1 rfl (Nat.le_of_ble_eq_true rfl) dX4_doWithLast_27 ⟨(by first | exact Nat.le_of_ble_eq_true rfl | (simp only [rm_X4_doWithLastS]; omega) | omega), (by first | exact Nat.le_of_ble_eq_true rfl | (simp only [rm_X4_doWithLastS]; omega) | omega)⟩ (fun r L_83 f_84 H locs hw_85 hP hD hS hT hE1 => ?_)
        have hF := Fr.call hF hE hw_85.2.1 (by decide)
        have hE := hE.tr hE1
        obtain ⟨⟨z_86, rfl⟩, hw_85⟩ := hw_85
        obtain ⟨hfr_87, hex_88⟩ := hw_85
        obtain ⟨u_89, hev_90, hrr_91, hs_92⟩ := hex_88
        have hok_93 := EvR.inv (B := B) (V := V) hev_90 hB hiv_63 (hNVs.fx hfx_62) (by rw [hfx_62.2.2.1]; exact hc) (fun _ => lk.V hLV (hkl ▸ (hLV k hk).2.2.2.2.1)) (fun e9 => absurd rfl e9)
        have hz_86 : z_86 = cO u_89.1 := sv hrr_91
        have hfx_94 := FX.tr hfx_62 hok_93.2.1
        have hiv_95 := hok_93.1
        refine W.eq (g2 := F0 m 30 ls [.int z_86]) rfl ?_
        refine lv_istore (lv' := [(5, .int z_86), (4, .int z_54), (0, .ref h0), (1, .ref o), (2, .ref w), (3, .int dep)]) hx hb dX4_doWithLast_30 hl (by decide) rfl (fun ls hl => ?_)
        refine lv_iload hx hb dX4_doWithLast_32 (lv_at hl 0 rfl) ?_
        refine lv_if_ne (tgt := 42) hx hb dX4_doWithLast_34 (by decide) (fun c_96 => ?_) (fun c_96 => ?_)
        · refine lv_iload hx hb dX4_doWithLast_42 (lv_at hl 0 rfl) ?_
          exact K_i hx hb hr hlocks hP hD hK hS hT hE ⟨⟨_, rfl⟩, hF, ⟨_, Or.inr (Or.inr (Or.inr (Or.inr ⟨hkd, _, hev_58, Or.inr ⟨fun e9 => c_64 (by rw [hz_54]; exact (cO_z hok_61.2.2.1).2.mpr e9), _, (by rw [congrFun (FX.nt hok_61.2.1 32 (by omega)) k]; exact hev_90), rfl⟩⟩))), by show _ = some (Value.int (cO (if u_89.1 = 0 then u_57.1 else u_89.1))); rw [if_neg (fun e9 => c_96 (by rw [hz_86]; exact (cO_z hok_93.2.2.1).1.mpr e9)), hz_86], hs_92⟩⟩ (by first | exact Nat.le_of_ble_eq_true rfl | (simp only [rm_X4_doWithLastS]; omega) | omega) (by first | exact Nat.le_of_ble_eq_true rfl | (simp only [rm_X4_doWithLastS]; omega) | omega) dX4_doWithLast_44
        · refine lv_iload hx hb dX4_doWithLast_37 (lv_at hl 1 rfl) ?_
          refine lv_goto (tgt := 44) hx hb dX4_doWithLast_39 (by decide) ?_
          exact K_i hx hb hr hlocks hP hD hK hS hT hE ⟨⟨_, rfl⟩, hF, ⟨_, Or.inr (Or.inr (Or.inr (Or.inr ⟨hkd, _, hev_58, Or.inr ⟨fun e9 => c_64 (by rw [hz_54]; exact (cO_z hok_61.2.2.1).2.mpr e9), _, (by rw [congrFun (FX.nt hok_61.2.1 32 (by omega)) k]; exact hev_90), rfl⟩⟩))), by show _ = some (Value.int (cO (if u_89.1 = 0 then u_57.1 else u_89.1))); rw [if_pos ((cO_z hok_93.2.2.1).1.mp (hz_86 ▸ c_96)), hz_54], hs_92⟩⟩ (by first | exact Nat.le_of_ble_eq_true rfl | (simp only [rm_X4_doWithLastS]; omega) | omega) (by first | exact Nat.le_of_ble_eq_true rfl | (simp only [rm_X4_doWithLastS]; omega) | omega) dX4_doWithLast_44
    · refine lv_iconst (v := (-1)) hx hb dX4_doWithLast_18 (by decide) ?_
      exact K_i hx hb hr hlocks hP hD hK hS hT hE ⟨⟨_, rfl⟩, hF, ⟨u_57, Or.inr (Or.inr (Or.inr (Or.inr ⟨hkd, _, hev_58, Or.inl ⟨(cO_z hok_61.2.2.1).2.mp (hz_54 ▸ c_64), rfl⟩⟩))), by rw [show cO u_57.1 = -1 from hz_54.symm.trans c_64], hs_60⟩⟩ (by first | exact Nat.le_of_ble_eq_true rfl | (simp only [rm_X4_doWithLastS]; omega) | omega) (by first | exact Nat.le_of_ble_eq_true rfl | (simp only [rm_X4_doWithLastS]; omega) | omega) dX4_doWithLast_19

set_option maxHeartbeats 800000 in
set_option maxRecDepth 100000 in
theorem t_X4_doBuiltS (l : Launch) (dC : Nat → ClassId) (dI : Nat → Nat → Nat) (sa : Nat → Nat) (hlt : l.stackTraces = false) (g : Nat → Nat) (L : List Nat) (f : Nat → va_E) (j : Nat) (d : Nat) (x0 : Nat) (cl : Nat) (va : Nat → Nat) (B : Int) (ck : Nat) (V : Nat → Prop) (ad : Nat → Nat) (dp : Nat → Nat) (sA : AS) (k : Nat) (h0 : Nat) (o : Nat) (w : Nat) (dep : Int32) (wk : Nat) (vs : Nat) (sz : Nat) (hT : TP g L f [(h0, (0, 4, 0)), (o, (0, 5, 0)), (w, (0, 0, 0)), (wk, (0, 8, 0)), (vs, (2, g 2, 6))]) (h_wk : rd f h0 0 = .ref wk) (h_vs : rd f wk 0 = .ref vs) (hd : dep = nI d) (hdj : d + j = 9) (hSR : SR g L f (x0, wk, vs, cl, h0, va) sA) (hIV : IV B sA) (hB : B ≤ 10000000) (hc : (ck : Int) < (sA.1 12).toInt) (hcl : ra f cl ck = some w) (hTR : TRS V ad L f sA) (hLV : LVS V dp sA) (hNVs : NV V sA) (hk : V k) (ho : o = ad k) (hkl : dp k + 1 = d) (h7 : ¬ sA.2 26 k < 7) (IHS : ∀ (L : List Nat) (f : Nat → va_E) (x0 : Nat) (cl : Nat) (va : Nat → Nat) (B : Int) (ck : Nat) (V : Nat → Prop) (ad : Nat → Nat) (dp : Nat → Nat) (sA : AS) (x : Int32) (h0 : Nat) (fs : Value) (w : Nat) (dep : Int32) (wk : Nat) (vs : Nat) (sz : Nat) (hT : TP g L f [(h0, (0, 4, 0)), (w, (0, 0, 0)), (wk, (0, 8, 0)), (vs, (2, g 2, 6))]) (hn_fs : okv L f (2, 0, 5, 0) fs) (h_wk : rd f h0 0 = .ref wk) (h_vs : rd f wk 0 = .ref vs) (hd : dep = nI d) (hSR : SR g L f (x0, wk, vs, cl, h0, va) sA) (hIV : IV B sA) (hB : B ≤ 10000000) (hc : (ck : Int) < (sA.1 12).toInt) (hcl : ra f cl ck = some w) (hTR : TRS V ad L f sA) (hLV : LVS V dp sA) (hNVs : NV V sA) (hfs : fs = lkr ad x) (hlk : lk V dp d x) (hd8 : d ≤ 8), KC l dC dI sa g yX4_doSteps wsX4_doSteps (rm_X4_doStepsS j d x0 cl va B ck V ad dp sA x) [.ref h0, fs, .ref w, .int dep] L f sz (fun r L' f' => (∃ z : Int32, r = some (.int z)) ∧ Fr [(0, 2), (0, 3), (0, 6), (0, 7), (7, 1), (7, 2), (7, 3), (7, 4), (7, 5), (7, 6), (7, 7), (8, 1), (8, 2), (4, 4), (4, 5), (4, 6), (4, 7)] L f f' ∧ (∃ u : Int32 × AS, EvR 0 x 0 ck sA u ∧ r = some (.int (cO u.1)) ∧ SR g L' f' (x0, wk, vs, cl, h0, va) u.2)) 0 0) : KC l dC dI sa g yX4_doBuilt wsX4_doBuilt (rm_X4_doBuiltS j d x0 cl va B ck V ad dp sA k) [.ref h0, .ref o, .ref w, .int dep] L f sz (fun r L' f' => (∃ z : Int32, r = some (.int z)) ∧ Fr [(0, 2), (0, 3), (0, 6), (0, 7), (7, 1), (7, 2), (7, 3), (7, 4), (7, 5), (7, 6), (7, 7), (8, 1), (8, 2), (4, 4), (4, 5), (4, 6), (4, 7)] L f f' ∧ (∃ u : Int32 × AS, BR k ck sA u ∧ r = some (.int (cO u.1)) ∧ SR g L' f' (x0, wk, vs, cl, h0, va) u.2)) 0 0 := by
  refine CT.start (cc := cX4_doBuilt) (maxL := 4) (ret := (some .int)) (by decide) rfl (Nat.le_of_ble_eq_true rfl) ?_
  intro p e s m below meth c ls hst hP hK hD hev hS hl
  obtain ⟨hx, hb, hr, hml, hts, hown, hlocks, hin⟩ := hst
  have hown : s.vm.findClass RX4 = some m.cls := hown
  have hin : meth.name = yX4_doBuilt.name := hin
  have hA : ∀ q : Nat, s.heap.size ≤ q → va_A (va_pl L f) s.heap.size q := fun _ h => Or.inr h
  have hE : Ext L f L f := Ext.rf
  have hF : Fr [(0, 2), (0, 3), (0, 6), (0, 7), (7, 1), (7, 2), (7, 3), (7, 4), (7, 5), (7, 6), (7, 7), (8, 1), (8, 2), (4, 4), (4, 5), (4, 6), (4, 7)] L f f := Fr.rf
  have hl : lv_has ls 4 [(0, .ref h0), (1, .ref o), (2, .ref w), (3, .int dep)] := hl
  have hT0 := hT
  have hSN : SN f ad sA o k := by rw [ho]; exact (hTR k hk).2
  have hd8 : d ≤ 8 := by have h9 := (hLV k hk).2.2.1 (kd_7 (hNVs k hk).1.1 h7); omega
  refine lv_aload_n hx hb dX4_doBuilt_0 rfl (lv_at hl 1 rfl) ?_
  refine T_get (ci := 5) (C := RX5) (T := TX5) (N := 8) (t := tI) hx hb hts inw_X4_doBuilt_5 hown hK hP hT 1 rfl rfl 0 (by decide) (hts (.fieldLink RX4 51 "VatHouse$Step" "word" "I") (List.mem_of_getElem? (i := 1) (by exact rfl))) (fun _ h9 => h9) rfl dX4_doBuilt_1 (fun v_3 hv_1 hr_2 => ?_)
  obtain rfl : v_3 = .int (sA.2 26 k + 1) := hr_2.symm.trans ((hF.1 o (hT0.at 1 rfl).1 5 (hT0.at 1 rfl).2 0 (by decide)).trans hSN.1)
  by_cases c_4 : (sA.2 26 k + 1) = 8
  · refine lv_tableIn (tgt := 36) hx hb dX4_doBuilt_4 (by rw [c_4]; decide) (by rw [c_4]; decide) (by rw [c_4]; rfl) (by decide) ?_
    have hkd : sA.2 26 k = 7 := (wd_k c_4).trans (by decide)
    refine lv_aload_n hx hb dX4_doBuilt_36 rfl (lv_at hl 0 rfl) ?_
    refine lv_aload_n hx hb dX4_doBuilt_37 rfl (lv_at hl 1 rfl) ?_
    refine lv_aload_n hx hb dX4_doBuilt_38 rfl (lv_at hl 2 rfl) ?_
    refine lv_iload_n hx hb dX4_doBuilt_39 rfl (lv_at hl 3 rfl) ?_
    refine K_V ⟨hx, hb, hml, hown, hts⟩ (t_X4_doTimesS l dC dI sa hlt g _ _ j d x0 cl va B ck V ad dp sA k h0 o w dep wk vs _ (hT.sub [0, 1, 2, 3, 4] rfl)  ((hF.1 h0 (hT0.at 0 rfl).1 4 (hT0.at 0 rfl).2 0 (by decide)).trans h_wk) ((hF.1 wk (hT0.at 3 rfl).1 8 (hT0.at 3 rfl).2 0 (by decide)).trans h_vs) hd hdj hSR hIV hB hc (by rw [ra_eq (hF.2 cl hSR.1.1.2.2.2.1.1 1 _ _ hSR.1.1.2.2.2.1.2 (by decide))]; exact hcl) (hTR.go hE hF (by decide) (fun _ _ => rfl)) hLV hNVs hk ho hkl h7 hkd IHS) (cwV 3 hts gX4_doBuilt_X4_doTimes rfl rfl rfl (by decide +kernel) ⟨(by first | exact Nat.le_of_ble_eq_true rfl | (simp only [rm_X4_doTimesS, rm_X4_doBuiltS]; omega)), (by first | exact Nat.le_of_ble_eq_true rfl | (simp only [rm_X4_doTimesS, rm_X4_doBuiltS]; omega))⟩) hP hD hK hS hA hev hT 0 4 rfl rfl rfl rfl hl.1 rfl (Nat.le_of_ble_eq_true rfl) dX4_doBuilt_40 ⟨(by first | exact Nat.le_of_ble_eq_true rfl | (simp only [rm_X4_doBuiltS]; omega) | omega), (by first | exact Nat.le_of_ble_eq_true rfl | (simp only [rm_X4_doBuiltS]; omega) | omega)⟩ (fun r L_5 f_6 H locs hw_7 hP hD hS hT hE1 => ?_)
    have hF := Fr.call hF hE hw_7.2.1 (by decide)
    have hE := hE.tr hE1
    obtain ⟨⟨z_8, rfl⟩, hw_7⟩ := hw_7
    obtain ⟨hfr_9, hex_10⟩ := hw_7
    refine W.eq (g2 := F0 m 43 ls [.int z_8]) rfl ?_
    exact K_i hx hb hr hlocks hP hD hK hS hT hE ⟨⟨_, rfl⟩, hF, (by obtain ⟨u, h1, h2⟩ := hex_10; exact ⟨u, Or.inl ⟨hkd, h1⟩, h2⟩)⟩ (by first | exact Nat.le_of_ble_eq_true rfl | (simp only [rm_X4_doBuiltS]; omega) | omega) (by first | exact Nat.le_of_ble_eq_true rfl | (simp only [rm_X4_doBuiltS]; omega) | omega) dX4_doBuilt_43
  by_cases c_11 : (sA.2 26 k + 1) = 9
  · refine lv_tableIn (tgt := 44) hx hb dX4_doBuilt_4 (by rw [c_11]; decide) (by rw [c_11]; decide) (by rw [c_11]; rfl) (by decide) ?_
    have hkd : sA.2 26 k = 8 := (wd_k c_11).trans (by decide)
    refine lv_aload_n hx hb dX4_doBuilt_44 rfl (lv_at hl 0 rfl) ?_
    refine lv_aload_n hx hb dX4_doBuilt_45 rfl (lv_at hl 1 rfl) ?_
    refine lv_aload_n hx hb dX4_doBuilt_46 rfl (lv_at hl 2 rfl) ?_
    refine lv_iload_n hx hb dX4_doBuilt_47 rfl (lv_at hl 3 rfl) ?_
    refine K_V ⟨hx, hb, hml, hown, hts⟩ (t_X4_doUntilS l dC dI sa hlt g _ _ j d x0 cl va B ck V ad dp sA k h0 o w dep wk vs _ (hT.sub [0, 1, 2, 3, 4] rfl)  ((hF.1 h0 (hT0.at 0 rfl).1 4 (hT0.at 0 rfl).2 0 (by decide)).trans h_wk) ((hF.1 wk (hT0.at 3 rfl).1 8 (hT0.at 3 rfl).2 0 (by decide)).trans h_vs) hd hdj hSR hIV hB hc (by rw [ra_eq (hF.2 cl hSR.1.1.2.2.2.1.1 1 _ _ hSR.1.1.2.2.2.1.2 (by decide))]; exact hcl) (hTR.go hE hF (by decide) (fun _ _ => rfl)) hLV hNVs hk ho hkl h7 hkd IHS) (cwV 3 hts gX4_doBuilt_X4_doUntil rfl rfl rfl (by decide +kernel) ⟨(by first | exact Nat.le_of_ble_eq_true rfl | (simp only [rm_X4_doUntilS, rm_X4_doBuiltS]; omega)), (by first | exact Nat.le_of_ble_eq_true rfl | (simp only [rm_X4_doUntilS, rm_X4_doBuiltS]; omega))⟩) hP hD hK hS hA hev hT 0 4 rfl rfl rfl rfl hl.1 rfl (Nat.le_of_ble_eq_true rfl) dX4_doBuilt_48 ⟨(by first | exact Nat.le_of_ble_eq_true rfl | (simp only [rm_X4_doBuiltS]; omega) | omega), (by first | exact Nat.le_of_ble_eq_true rfl | (simp only [rm_X4_doBuiltS]; omega) | omega)⟩ (fun r L_12 f_13 H locs hw_14 hP hD hS hT hE1 => ?_)
    have hF := Fr.call hF hE hw_14.2.1 (by decide)
    have hE := hE.tr hE1
    obtain ⟨⟨z_15, rfl⟩, hw_14⟩ := hw_14
    obtain ⟨hfr_16, hex_17⟩ := hw_14
    refine W.eq (g2 := F0 m 51 ls [.int z_15]) rfl ?_
    exact K_i hx hb hr hlocks hP hD hK hS hT hE ⟨⟨_, rfl⟩, hF, (by obtain ⟨u, h1, h2⟩ := hex_17; exact ⟨u, Or.inr (Or.inl ⟨hkd, h1⟩), h2⟩)⟩ (by first | exact Nat.le_of_ble_eq_true rfl | (simp only [rm_X4_doBuiltS]; omega) | omega) (by first | exact Nat.le_of_ble_eq_true rfl | (simp only [rm_X4_doBuiltS]; omega) | omega) dX4_doBuilt_51
  by_cases c_18 : (sA.2 26 k + 1) = 10
  · refine lv_tableIn (tgt := 52) hx hb dX4_doBuilt_4 (by rw [c_18]; decide) (by rw [c_18]; decide) (by rw [c_18]; rfl) (by decide) ?_
    have hkd : sA.2 26 k = 9 := (wd_k c_18).trans (by decide)
    refine lv_aload_n hx hb dX4_doBuilt_52 rfl (lv_at hl 0 rfl) ?_
    refine lv_aload_n hx hb dX4_doBuilt_53 rfl (lv_at hl 0 rfl) ?_
    refine lv_aload_n hx hb dX4_doBuilt_54 rfl (lv_at hl 1 rfl) ?_
    refine lv_aload_n hx hb dX4_doBuilt_55 rfl (lv_at hl 2 rfl) ?_
    refine K_V ⟨hx, hb, hml, hown, hts⟩ (t_X4_holdsS l dC dI sa hlt g _ _ x0 cl va B ck sA ad k h0 o w wk vs _ (hT.sub [0, 1, 2, 3, 4] rfl)  ((hF.1 h0 (hT0.at 0 rfl).1 4 (hT0.at 0 rfl).2 0 (by decide)).trans h_wk) ((hF.1 wk (hT0.at 3 rfl).1 8 (hT0.at 3 rfl).2 0 (by decide)).trans h_vs) hSR hIV hc (by rw [ra_eq (hF.2 cl hSR.1.1.2.2.2.1.1 1 _ _ hSR.1.1.2.2.2.1.2 (by decide))]; exact hcl) hSN (hNVs k hk).1 hkd) (cwV 2 hts gX4_doBuilt_X4_holds rfl rfl rfl (by decide +kernel) ⟨(by first | exact Nat.le_of_ble_eq_true rfl | (simp only [rm_X4_holdsS, rm_X4_doBuiltS]; omega)), (by first | exact Nat.le_of_ble_eq_true rfl | (simp only [rm_X4_holdsS, rm_X4_doBuiltS]; omega))⟩) hP hD hK hS hA hev hT 0 4 rfl rfl rfl rfl hl.1 rfl (Nat.le_of_ble_eq_true rfl) dX4_doBuilt_56 ⟨(by first | exact Nat.le_of_ble_eq_true rfl | (simp only [rm_X4_doBuiltS]; omega) | omega), (by first | exact Nat.le_of_ble_eq_true rfl | (simp only [rm_X4_doBuiltS]; omega) | omega)⟩ (fun r L_19 f_20 H locs hw_21 hP hD hS hT hE1 => ?_)
    have hF := Fr.call hF hE hw_21.2 (by decide)
    have hE := hE.tr hE1
    obtain ⟨⟨rfl, hz2_22⟩ | ⟨rfl, hz2_22⟩, hw_21⟩ := hw_21
    · obtain ⟨hh_23, hs_24⟩ := hz2_22
      refine W.eq (g2 := F0 m 59 ls [.int 0, .ref h0]) rfl ?_
      refine lv_if_eq (tgt := 69) hx hb dX4_doBuilt_59 (by decide) (fun c_25 => ?_) (fun c_25 => ?_)
      rotate_left
      · exact absurd c_25 (by decide)
      refine lv_aload_n hx hb dX4_doBuilt_69 rfl (lv_at hl 1 rfl) ?_
      refine T_get (ci := 5) (C := RX5) (T := TX5) (N := 8) (t := (2, 0, 5, 0)) hx hb hts inw_X4_doBuilt_5 hown hK hP hT 1 rfl rfl 6 (by decide) (hts (.fieldLink RX4 117 "VatHouse$Step" "other" "LVatHouse$Step;") (List.mem_of_getElem? (i := 3) (by exact rfl))) (fun _ h9 => h9) rfl dX4_doBuilt_70 (fun v_28 hv_26 hr_27 => ?_)
      rcases hv_26 with rfl | ⟨b_29, rfl, hb9⟩
      · refine lv_aload_n hx hb dX4_doBuilt_73 rfl (lv_at hl 2 rfl) ?_
        refine lv_iload_n hx hb dX4_doBuilt_74 rfl (lv_at hl 3 rfl) ?_
        refine K_V ⟨hx, hb, hml, hown, hts⟩ (IHS _ _ x0 cl va B ck V ad dp sA (sA.2 32 k) h0 .null w dep wk vs _ (hT.sub [0, 2, 3, 4] rfl) (Or.inl rfl) ((hF.1 h0 (hT0.at 0 rfl).1 4 (hT0.at 0 rfl).2 0 (by decide)).trans h_wk) ((hF.1 wk (hT0.at 3 rfl).1 8 (hT0.at 3 rfl).2 0 (by decide)).trans h_vs) hd hs_24 hIV hB hc (by rw [ra_eq (hF.2 cl hSR.1.1.2.2.2.1.1 1 _ _ hSR.1.1.2.2.2.1.2 (by decide))]; exact hcl) (hTR.go hE hF (by decide) (FX.nt FX.rf)) (hLV.go (FX.nt FX.rf)) (hNVs.fx FX.rf) (hr_27.symm.trans ((hF.1 o (hT0.at 1 rfl).1 5 (hT0.at 1 rfl).2 6 (by decide)).trans hSN.2.2.2.2.2.2.1)) (hkl ▸ (hLV k hk).2.2.2.2.1) (hd8)) (cwV 3 hts gX4_doBuilt_X4_doSteps rfl rfl rfl (by decide +kernel) ⟨(by first | exact Nat.le_of_ble_eq_true rfl | (simp only [rm_X4_doStepsS, rm_X4_doBuiltS]; omega)), (by first | exact Nat.le_of_ble_eq_true rfl | (simp only [rm_X4_doStepsS, rm_X4_doBuiltS]; omega))⟩) hP hD hK hS hA hev hT 0 4 rfl rfl rfl rfl hl.1 rfl (Nat.le_of_ble_eq_true rfl) dX4_doBuilt_75 ⟨(by first | exact Nat.le_of_ble_eq_true rfl | (simp only [rm_X4_doBuiltS]; omega) | omega), (by first | exact Nat.le_of_ble_eq_true rfl | (simp only [rm_X4_doBuiltS]; omega) | omega)⟩ (fun r L_30 f_31 H locs hw_32 hP hD hS hT hE1 => ?_)
        have hF := Fr.call hF hE hw_32.2.1 (by decide)
        have hE := hE.tr hE1
        obtain ⟨⟨z_33, rfl⟩, hw_32⟩ := hw_32
        obtain ⟨hfr_34, hex_35⟩ := hw_32
        obtain ⟨u_36, hev_37, hrr_38, hs_39⟩ := hex_35
        have hok_40 := EvR.inv (B := B) (V := V) hev_37 hB hIV (hNVs.fx FX.rf) hc (fun _ => lk.V hLV (hkl ▸ (hLV k hk).2.2.2.2.1)) (fun e9 => absurd rfl e9)
        have hz_33 : z_33 = cO u_36.1 := sv hrr_38
        have hfx_41 := FX.tr FX.rf hok_40.2.1
        have hiv_42 := hok_40.1
        refine W.eq (g2 := F0 m 78 ls [.int z_33]) rfl ?_
        exact K_i hx hb hr hlocks hP hD hK hS hT hE ⟨⟨_, rfl⟩, hF, ⟨u_36, Or.inr (Or.inr (Or.inl ⟨hkd, by rw [if_neg hh_23]; exact hev_37⟩)), congrArg (fun z => some (Value.int z)) hz_33, hs_39⟩⟩ (by first | exact Nat.le_of_ble_eq_true rfl | (simp only [rm_X4_doBuiltS]; omega) | omega) (by first | exact Nat.le_of_ble_eq_true rfl | (simp only [rm_X4_doBuiltS]; omega) | omega) dX4_doBuilt_78
      · have hT := hT.add hb9
        refine lv_aload_n hx hb dX4_doBuilt_73 rfl (lv_at hl 2 rfl) ?_
        refine lv_iload_n hx hb dX4_doBuilt_74 rfl (lv_at hl 3 rfl) ?_
        refine K_V ⟨hx, hb, hml, hown, hts⟩ (IHS _ _ x0 cl va B ck V ad dp sA (sA.2 32 k) h0 (.ref b_29) w dep wk vs _ (hT.sub [1, 3, 4, 5] rfl) (Or.inr ⟨_, rfl, hT.at 0 rfl⟩) ((hF.1 h0 (hT0.at 0 rfl).1 4 (hT0.at 0 rfl).2 0 (by decide)).trans h_wk) ((hF.1 wk (hT0.at 3 rfl).1 8 (hT0.at 3 rfl).2 0 (by decide)).trans h_vs) hd hs_24 hIV hB hc (by rw [ra_eq (hF.2 cl hSR.1.1.2.2.2.1.1 1 _ _ hSR.1.1.2.2.2.1.2 (by decide))]; exact hcl) (hTR.go hE hF (by decide) (FX.nt FX.rf)) (hLV.go (FX.nt FX.rf)) (hNVs.fx FX.rf) (hr_27.symm.trans ((hF.1 o (hT0.at 1 rfl).1 5 (hT0.at 1 rfl).2 6 (by decide)).trans hSN.2.2.2.2.2.2.1)) (hkl ▸ (hLV k hk).2.2.2.2.1) (hd8)) (cwV 3 hts gX4_doBuilt_X4_doSteps rfl rfl rfl (by decide +kernel) ⟨(by first | exact Nat.le_of_ble_eq_true rfl | (simp only [rm_X4_doStepsS, rm_X4_doBuiltS]; omega)), (by first | exact Nat.le_of_ble_eq_true rfl | (simp only [rm_X4_doStepsS, rm_X4_doBuiltS]; omega))⟩) hP hD hK hS hA hev hT 1 4 rfl rfl rfl rfl hl.1 rfl (Nat.le_of_ble_eq_true rfl) dX4_doBuilt_75 ⟨(by first | exact Nat.le_of_ble_eq_true rfl | (simp only [rm_X4_doBuiltS]; omega) | omega), (by first | exact Nat.le_of_ble_eq_true rfl | (simp only [rm_X4_doBuiltS]; omega) | omega)⟩ (fun r L_43 f_44 H locs hw_45 hP hD hS hT hE1 => ?_)
        have hF := Fr.call hF hE hw_45.2.1 (by decide)
        have hE := hE.tr hE1
        obtain ⟨⟨z_46, rfl⟩, hw_45⟩ := hw_45
        obtain ⟨hfr_47, hex_48⟩ := hw_45
        obtain ⟨u_49, hev_50, hrr_51, hs_52⟩ := hex_48
        have hok_53 := EvR.inv (B := B) (V := V) hev_50 hB hIV (hNVs.fx FX.rf) hc (fun _ => lk.V hLV (hkl ▸ (hLV k hk).2.2.2.2.1)) (fun e9 => absurd rfl e9)
        have hz_46 : z_46 = cO u_49.1 := sv hrr_51
        have hfx_54 := FX.tr FX.rf hok_53.2.1
        have hiv_55 := hok_53.1
        refine W.eq (g2 := F0 m 78 ls [.int z_46]) rfl ?_
        exact K_i hx hb hr hlocks hP hD hK hS hT hE ⟨⟨_, rfl⟩, hF, ⟨u_49, Or.inr (Or.inr (Or.inl ⟨hkd, by rw [if_neg hh_23]; exact hev_50⟩)), congrArg (fun z => some (Value.int z)) hz_46, hs_52⟩⟩ (by first | exact Nat.le_of_ble_eq_true rfl | (simp only [rm_X4_doBuiltS]; omega) | omega) (by first | exact Nat.le_of_ble_eq_true rfl | (simp only [rm_X4_doBuiltS]; omega) | omega) dX4_doBuilt_78
    · obtain ⟨hh_56, hs_57⟩ := hz2_22
      refine W.eq (g2 := F0 m 59 ls [.int 1, .ref h0]) rfl ?_
      refine lv_if_eq (tgt := 69) hx hb dX4_doBuilt_59 (by decide) (fun c_58 => ?_) (fun c_58 => ?_)
      · exact absurd c_58 (by decide)
      refine lv_aload_n hx hb dX4_doBuilt_62 rfl (lv_at hl 1 rfl) ?_
      refine T_get (ci := 5) (C := RX5) (T := TX5) (N := 8) (t := (2, 0, 5, 0)) hx hb hts inw_X4_doBuilt_5 hown hK hP hT 1 rfl rfl 5 (by decide) (hts (.fieldLink RX4 114 "VatHouse$Step" "block" "LVatHouse$Step;") (List.mem_of_getElem? (i := 2) (by exact rfl))) (fun _ h9 => h9) rfl dX4_doBuilt_63 (fun v_61 hv_59 hr_60 => ?_)
      rcases hv_59 with rfl | ⟨b_62, rfl, hb9⟩
      · refine lv_goto (tgt := 73) hx hb dX4_doBuilt_66 (by decide) ?_
        refine lv_aload_n hx hb dX4_doBuilt_73 rfl (lv_at hl 2 rfl) ?_
        refine lv_iload_n hx hb dX4_doBuilt_74 rfl (lv_at hl 3 rfl) ?_
        refine K_V ⟨hx, hb, hml, hown, hts⟩ (IHS _ _ x0 cl va B ck V ad dp sA (sA.2 31 k) h0 .null w dep wk vs _ (hT.sub [0, 2, 3, 4] rfl) (Or.inl rfl) ((hF.1 h0 (hT0.at 0 rfl).1 4 (hT0.at 0 rfl).2 0 (by decide)).trans h_wk) ((hF.1 wk (hT0.at 3 rfl).1 8 (hT0.at 3 rfl).2 0 (by decide)).trans h_vs) hd hs_57 hIV hB hc (by rw [ra_eq (hF.2 cl hSR.1.1.2.2.2.1.1 1 _ _ hSR.1.1.2.2.2.1.2 (by decide))]; exact hcl) (hTR.go hE hF (by decide) (FX.nt FX.rf)) (hLV.go (FX.nt FX.rf)) (hNVs.fx FX.rf) (hr_60.symm.trans ((hF.1 o (hT0.at 1 rfl).1 5 (hT0.at 1 rfl).2 5 (by decide)).trans hSN.2.2.2.2.2.1)) (hkl ▸ (hLV k hk).2.2.2.1) (hd8)) (cwV 3 hts gX4_doBuilt_X4_doSteps rfl rfl rfl (by decide +kernel) ⟨(by first | exact Nat.le_of_ble_eq_true rfl | (simp only [rm_X4_doStepsS, rm_X4_doBuiltS]; omega)), (by first | exact Nat.le_of_ble_eq_true rfl | (simp only [rm_X4_doStepsS, rm_X4_doBuiltS]; omega))⟩) hP hD hK hS hA hev hT 0 4 rfl rfl rfl rfl hl.1 rfl (Nat.le_of_ble_eq_true rfl) dX4_doBuilt_75 ⟨(by first | exact Nat.le_of_ble_eq_true rfl | (simp only [rm_X4_doBuiltS]; omega) | omega), (by first | exact Nat.le_of_ble_eq_true rfl | (simp only [rm_X4_doBuiltS]; omega) | omega)⟩ (fun r L_63 f_64 H locs hw_65 hP hD hS hT hE1 => ?_)
        have hF := Fr.call hF hE hw_65.2.1 (by decide)
        have hE := hE.tr hE1
        obtain ⟨⟨z_66, rfl⟩, hw_65⟩ := hw_65
        obtain ⟨hfr_67, hex_68⟩ := hw_65
        obtain ⟨u_69, hev_70, hrr_71, hs_72⟩ := hex_68
        have hok_73 := EvR.inv (B := B) (V := V) hev_70 hB hIV (hNVs.fx FX.rf) hc (fun _ => lk.V hLV (hkl ▸ (hLV k hk).2.2.2.1)) (fun e9 => absurd rfl e9)
        have hz_66 : z_66 = cO u_69.1 := sv hrr_71
        have hfx_74 := FX.tr FX.rf hok_73.2.1
        have hiv_75 := hok_73.1
        refine W.eq (g2 := F0 m 78 ls [.int z_66]) rfl ?_
        exact K_i hx hb hr hlocks hP hD hK hS hT hE ⟨⟨_, rfl⟩, hF, ⟨u_69, Or.inr (Or.inr (Or.inl ⟨hkd, by rw [if_pos hh_56]; exact hev_70⟩)), congrArg (fun z => some (Value.int z)) hz_66, hs_72⟩⟩ (by first | exact Nat.le_of_ble_eq_true rfl | (simp only [rm_X4_doBuiltS]; omega) | omega) (by first | exact Nat.le_of_ble_eq_true rfl | (simp only [rm_X4_doBuiltS]; omega) | omega) dX4_doBuilt_78
      · have hT := hT.add hb9
        refine lv_goto (tgt := 73) hx hb dX4_doBuilt_66 (by decide) ?_
        refine lv_aload_n hx hb dX4_doBuilt_73 rfl (lv_at hl 2 rfl) ?_
        refine lv_iload_n hx hb dX4_doBuilt_74 rfl (lv_at hl 3 rfl) ?_
        refine K_V ⟨hx, hb, hml, hown, hts⟩ (IHS _ _ x0 cl va B ck V ad dp sA (sA.2 31 k) h0 (.ref b_62) w dep wk vs _ (hT.sub [1, 3, 4, 5] rfl) (Or.inr ⟨_, rfl, hT.at 0 rfl⟩) ((hF.1 h0 (hT0.at 0 rfl).1 4 (hT0.at 0 rfl).2 0 (by decide)).trans h_wk) ((hF.1 wk (hT0.at 3 rfl).1 8 (hT0.at 3 rfl).2 0 (by decide)).trans h_vs) hd hs_57 hIV hB hc (by rw [ra_eq (hF.2 cl hSR.1.1.2.2.2.1.1 1 _ _ hSR.1.1.2.2.2.1.2 (by decide))]; exact hcl) (hTR.go hE hF (by decide) (FX.nt FX.rf)) (hLV.go (FX.nt FX.rf)) (hNVs.fx FX.rf) (hr_60.symm.trans ((hF.1 o (hT0.at 1 rfl).1 5 (hT0.at 1 rfl).2 5 (by decide)).trans hSN.2.2.2.2.2.1)) (hkl ▸ (hLV k hk).2.2.2.1) (hd8)) (cwV 3 hts gX4_doBuilt_X4_doSteps rfl rfl rfl (by decide +kernel) ⟨(by first | exact Nat.le_of_ble_eq_true rfl | (simp only [rm_X4_doStepsS, rm_X4_doBuiltS]; omega)), (by first | exact Nat.le_of_ble_eq_true rfl | (simp only [rm_X4_doStepsS, rm_X4_doBuiltS]; omega))⟩) hP hD hK hS hA hev hT 1 4 rfl rfl rfl rfl hl.1 rfl (Nat.le_of_ble_eq_true rfl) dX4_doBuilt_75 ⟨(by first | exact Nat.le_of_ble_eq_true rfl | (simp only [rm_X4_doBuiltS]; omega) | omega), (by first | exact Nat.le_of_ble_eq_true rfl | (simp only [rm_X4_doBuiltS]; omega) | omega)⟩ (fun r L_76 f_77 H locs hw_78 hP hD hS hT hE1 => ?_)
        have hF := Fr.call hF hE hw_78.2.1 (by decide)
        have hE := hE.tr hE1
        obtain ⟨⟨z_79, rfl⟩, hw_78⟩ := hw_78
        obtain ⟨hfr_80, hex_81⟩ := hw_78
        obtain ⟨u_82, hev_83, hrr_84, hs_85⟩ := hex_81
        have hok_86 := EvR.inv (B := B) (V := V) hev_83 hB hIV (hNVs.fx FX.rf) hc (fun _ => lk.V hLV (hkl ▸ (hLV k hk).2.2.2.1)) (fun e9 => absurd rfl e9)
        have hz_79 : z_79 = cO u_82.1 := sv hrr_84
        have hfx_87 := FX.tr FX.rf hok_86.2.1
        have hiv_88 := hok_86.1
        refine W.eq (g2 := F0 m 78 ls [.int z_79]) rfl ?_
        exact K_i hx hb hr hlocks hP hD hK hS hT hE ⟨⟨_, rfl⟩, hF, ⟨u_82, Or.inr (Or.inr (Or.inl ⟨hkd, by rw [if_pos hh_56]; exact hev_83⟩)), congrArg (fun z => some (Value.int z)) hz_79, hs_85⟩⟩ (by first | exact Nat.le_of_ble_eq_true rfl | (simp only [rm_X4_doBuiltS]; omega) | omega) (by first | exact Nat.le_of_ble_eq_true rfl | (simp only [rm_X4_doBuiltS]; omega) | omega) dX4_doBuilt_78
  by_cases c_89 : (sA.2 26 k + 1) = 11
  · refine lv_tableIn (tgt := 79) hx hb dX4_doBuilt_4 (by rw [c_89]; decide) (by rw [c_89]; decide) (by rw [c_89]; rfl) (by decide) ?_
    have hkd : sA.2 26 k = 10 := (wd_k c_89).trans (by decide)
    refine lv_aload_n hx hb dX4_doBuilt_79 rfl (lv_at hl 0 rfl) ?_
    refine lv_aload_n hx hb dX4_doBuilt_80 rfl (lv_at hl 1 rfl) ?_
    refine lv_aload_n hx hb dX4_doBuilt_81 rfl (lv_at hl 2 rfl) ?_
    refine lv_iload_n hx hb dX4_doBuilt_82 rfl (lv_at hl 3 rfl) ?_
    refine K_V ⟨hx, hb, hml, hown, hts⟩ (t_X4_doTryS l dC dI sa hlt g _ _ j d x0 cl va B ck V ad dp sA k h0 o w dep wk vs _ (hT.sub [0, 1, 2, 3, 4] rfl)  ((hF.1 h0 (hT0.at 0 rfl).1 4 (hT0.at 0 rfl).2 0 (by decide)).trans h_wk) ((hF.1 wk (hT0.at 3 rfl).1 8 (hT0.at 3 rfl).2 0 (by decide)).trans h_vs) hd hdj hSR hIV hB hc (by rw [ra_eq (hF.2 cl hSR.1.1.2.2.2.1.1 1 _ _ hSR.1.1.2.2.2.1.2 (by decide))]; exact hcl) (hTR.go hE hF (by decide) (fun _ _ => rfl)) hLV hNVs hk ho hkl h7 hkd IHS) (cwV 3 hts gX4_doBuilt_X4_doTry rfl rfl rfl (by decide +kernel) ⟨(by first | exact Nat.le_of_ble_eq_true rfl | (simp only [rm_X4_doTryS, rm_X4_doBuiltS]; omega)), (by first | exact Nat.le_of_ble_eq_true rfl | (simp only [rm_X4_doTryS, rm_X4_doBuiltS]; omega))⟩) hP hD hK hS hA hev hT 0 4 rfl rfl rfl rfl hl.1 rfl (Nat.le_of_ble_eq_true rfl) dX4_doBuilt_83 ⟨(by first | exact Nat.le_of_ble_eq_true rfl | (simp only [rm_X4_doBuiltS]; omega) | omega), (by first | exact Nat.le_of_ble_eq_true rfl | (simp only [rm_X4_doBuiltS]; omega) | omega)⟩ (fun r L_90 f_91 H locs hw_92 hP hD hS hT hE1 => ?_)
    have hF := Fr.call hF hE hw_92.2.1 (by decide)
    have hE := hE.tr hE1
    obtain ⟨⟨z_93, rfl⟩, hw_92⟩ := hw_92
    obtain ⟨hfr_94, hex_95⟩ := hw_92
    refine W.eq (g2 := F0 m 86 ls [.int z_93]) rfl ?_
    exact K_i hx hb hr hlocks hP hD hK hS hT hE ⟨⟨_, rfl⟩, hF, hex_95⟩ (by first | exact Nat.le_of_ble_eq_true rfl | (simp only [rm_X4_doBuiltS]; omega) | omega) (by first | exact Nat.le_of_ble_eq_true rfl | (simp only [rm_X4_doBuiltS]; omega) | omega) dX4_doBuilt_86
  refine lv_tableOut (tgt := 87) hx hb dX4_doBuilt_4 (tab_out_8_11 c_4 c_11 c_18 c_89) (by decide) ?_
  have hkd : ¬ sA.2 26 k = 7 ∧ ¬ sA.2 26 k = 8 ∧ ¬ sA.2 26 k = 9 ∧ ¬ sA.2 26 k = 10 := ⟨fun e9 => c_4 (by rw [e9]; decide), fun e9 => c_11 (by rw [e9]; decide), fun e9 => c_18 (by rw [e9]; decide), fun e9 => c_89 (by rw [e9]; decide)⟩
  refine lv_aload_n hx hb dX4_doBuilt_87 rfl (lv_at hl 0 rfl) ?_
  refine lv_aload_n hx hb dX4_doBuilt_88 rfl (lv_at hl 1 rfl) ?_
  refine lv_aload_n hx hb dX4_doBuilt_89 rfl (lv_at hl 2 rfl) ?_
  refine lv_iload_n hx hb dX4_doBuilt_90 rfl (lv_at hl 3 rfl) ?_
  refine K_V ⟨hx, hb, hml, hown, hts⟩ (t_X4_doWithLastS l dC dI sa hlt g _ _ j d x0 cl va B ck V ad dp sA k h0 o w dep wk vs _ (hT.sub [0, 1, 2, 3, 4] rfl)  ((hF.1 h0 (hT0.at 0 rfl).1 4 (hT0.at 0 rfl).2 0 (by decide)).trans h_wk) ((hF.1 wk (hT0.at 3 rfl).1 8 (hT0.at 3 rfl).2 0 (by decide)).trans h_vs) hd hdj hSR hIV hB hc (by rw [ra_eq (hF.2 cl hSR.1.1.2.2.2.1.1 1 _ _ hSR.1.1.2.2.2.1.2 (by decide))]; exact hcl) (hTR.go hE hF (by decide) (fun _ _ => rfl)) hLV hNVs hk ho hkl h7 hkd IHS) (cwV 3 hts gX4_doBuilt_X4_doWithLast rfl rfl rfl (by decide +kernel) ⟨(by first | exact Nat.le_of_ble_eq_true rfl | (simp only [rm_X4_doWithLastS, rm_X4_doBuiltS]; omega)), (by first | exact Nat.le_of_ble_eq_true rfl | (simp only [rm_X4_doWithLastS, rm_X4_doBuiltS]; omega))⟩) hP hD hK hS hA hev hT 0 4 rfl rfl rfl rfl hl.1 rfl (Nat.le_of_ble_eq_true rfl) dX4_doBuilt_91 ⟨(by first | exact Nat.le_of_ble_eq_true rfl | (simp only [rm_X4_doBuiltS]; omega) | omega), (by first | exact Nat.le_of_ble_eq_true rfl | (simp only [rm_X4_doBuiltS]; omega) | omega)⟩ (fun r L_96 f_97 H locs hw_98 hP hD hS hT hE1 => ?_)
  have hF := Fr.call hF hE hw_98.2.1 (by decide)
  have hE := hE.tr hE1
  obtain ⟨⟨z_99, rfl⟩, hw_98⟩ := hw_98
  obtain ⟨hfr_100, hex_101⟩ := hw_98
  refine W.eq (g2 := F0 m 94 ls [.int z_99]) rfl ?_
  exact K_i hx hb hr hlocks hP hD hK hS hT hE ⟨⟨_, rfl⟩, hF, hex_101⟩ (by first | exact Nat.le_of_ble_eq_true rfl | (simp only [rm_X4_doBuiltS]; omega) | omega) (by first | exact Nat.le_of_ble_eq_true rfl | (simp only [rm_X4_doBuiltS]; omega) | omega) dX4_doBuilt_94

theorem nI_le8 {d : Nat} (h : d ≤ 8) : nI d ≤ 8 := by
  rw [Int32.le_iff_toInt_le, nI_toInt (by omega)]
  have : (8 : Int32).toInt = 8 := by decide
  omega

set_option maxHeartbeats 800000 in
set_option maxRecDepth 100000 in
theorem t_X4_doStepsS (l : Launch) (dC : Nat → ClassId) (dI : Nat → Nat → Nat) (sa : Nat → Nat) (hlt : l.stackTraces = false) (g : Nat → Nat) (L : List Nat) (f : Nat → va_E) (j : Nat) (d : Nat) (x0 : Nat) (cl : Nat) (va : Nat → Nat) (B : Int) (ck : Nat) (V : Nat → Prop) (ad : Nat → Nat) (dp : Nat → Nat) (sA : AS) (x : Int32) (h0 : Nat) (fs : Value) (w : Nat) (dep : Int32) (wk : Nat) (vs : Nat) (sz : Nat) (hT : TP g L f [(h0, (0, 4, 0)), (w, (0, 0, 0)), (wk, (0, 8, 0)), (vs, (2, g 2, 6))]) (hn_fs : okv L f (2, 0, 5, 0) fs) (h_wk : rd f h0 0 = .ref wk) (h_vs : rd f wk 0 = .ref vs) (hd : dep = nI d) (hdj : d + j = 9) (hSR : SR g L f (x0, wk, vs, cl, h0, va) sA) (hIV : IV B sA) (hB : B ≤ 10000000) (hc : (ck : Int) < (sA.1 12).toInt) (hcl : ra f cl ck = some w) (hTR : TRS V ad L f sA) (hLV : LVS V dp sA) (hNVs : NV V sA) (hfs : fs = lkr ad x) (hlk : lk V dp d x) (hd8 : d ≤ 8) (IHB : ∀ j' d' : Nat, d' + j' = 9 → j = j' + 1 → ∀ (L : List Nat) (f : Nat → va_E) (x0 : Nat) (cl : Nat) (va : Nat → Nat) (B : Int) (ck : Nat) (V : Nat → Prop) (ad : Nat → Nat) (dp : Nat → Nat) (sA : AS) (k : Nat) (h0 : Nat) (o : Nat) (w : Nat) (dep : Int32) (wk : Nat) (vs : Nat) (sz : Nat) (hT : TP g L f [(h0, (0, 4, 0)), (o, (0, 5, 0)), (w, (0, 0, 0)), (wk, (0, 8, 0)), (vs, (2, g 2, 6))]) (h_wk : rd f h0 0 = .ref wk) (h_vs : rd f wk 0 = .ref vs) (hd : dep = nI d') (hSR : SR g L f (x0, wk, vs, cl, h0, va) sA) (hIV : IV B sA) (hB : B ≤ 10000000) (hc : (ck : Int) < (sA.1 12).toInt) (hcl : ra f cl ck = some w) (hTR : TRS V ad L f sA) (hLV : LVS V dp sA) (hNVs : NV V sA) (hk : V k) (ho : o = ad k) (hkl : dp k + 1 = d') (h7 : ¬ sA.2 26 k < 7), KC l dC dI sa g yX4_doBuilt wsX4_doBuilt (rm_X4_doBuiltS j' d' x0 cl va B ck V ad dp sA k) [.ref h0, .ref o, .ref w, .int dep] L f sz (fun r L' f' => (∃ z : Int32, r = some (.int z)) ∧ Fr [(0, 2), (0, 3), (0, 6), (0, 7), (7, 1), (7, 2), (7, 3), (7, 4), (7, 5), (7, 6), (7, 7), (8, 1), (8, 2), (4, 4), (4, 5), (4, 6), (4, 7)] L f f' ∧ (∃ u : Int32 × AS, BR k ck sA u ∧ r = some (.int (cO u.1)) ∧ SR g L' f' (x0, wk, vs, cl, h0, va) u.2)) 0 0) : KC l dC dI sa g yX4_doSteps wsX4_doSteps (rm_X4_doStepsS j d x0 cl va B ck V ad dp sA x) [.ref h0, fs, .ref w, .int dep] L f sz (fun r L' f' => (∃ z : Int32, r = some (.int z)) ∧ Fr [(0, 2), (0, 3), (0, 6), (0, 7), (7, 1), (7, 2), (7, 3), (7, 4), (7, 5), (7, 6), (7, 7), (8, 1), (8, 2), (4, 4), (4, 5), (4, 6), (4, 7)] L f f' ∧ (∃ u : Int32 × AS, EvR 0 x 0 ck sA u ∧ r = some (.int (cO u.1)) ∧ SR g L' f' (x0, wk, vs, cl, h0, va) u.2)) 0 0 := by
  have hT0 := hT
  rcases hn_fs with rfl | ⟨b_1, rfl, hb9⟩
  · refine CT.start (cc := cX4_doSteps) (maxL := 6) (ret := (some .int)) (by decide) rfl (Nat.le_of_ble_eq_true rfl) ?_
    intro p e s m below meth c ls hst hP hK hD hev hS hl
    obtain ⟨hx, hb, hr, hml, hts, hown, hlocks, hin⟩ := hst
    have hown : s.vm.findClass RX4 = some m.cls := hown
    have hin : meth.name = yX4_doSteps.name := hin
    have hA : ∀ q : Nat, s.heap.size ≤ q → va_A (va_pl L f) s.heap.size q := fun _ h => Or.inr h
    have hE : Ext L f L f := Ext.rf
    have hF : Fr [(0, 2), (0, 3), (0, 6), (0, 7), (7, 1), (7, 2), (7, 3), (7, 4), (7, 5), (7, 6), (7, 7), (8, 1), (8, 2), (4, 4), (4, 5), (4, 6), (4, 7)] L f f := Fr.rf
    have hl : lv_has ls 6 [(0, .ref h0), (1, .null), (2, .ref w), (3, .int dep)] := hl
    refine lv_iload_n hx hb dX4_doSteps_0 rfl (lv_at hl 3 rfl) ?_
    refine lv_bipush (v := 8) hx hb dX4_doSteps_1 (by decide) ?_
    refine lv_icmp_le (tgt := 8) hx hb dX4_doSteps_3 (by decide) (fun c_2 => ?_) (fun c_2 => ?_)
    · refine lv_iconst (v := 0) hx hb dX4_doSteps_8 (by decide) ?_
      refine lv_istore (lv' := [(4, .int 0), (0, .ref h0), (1, .null), (2, .ref w), (3, .int dep)]) hx hb dX4_doSteps_9 hl (by decide) rfl (fun ls hl => ?_)
      refine lv_aload_nN hx hb dX4_doSteps_11 rfl (lv_at hl 2 rfl) ?_
      refine lv_astoreN (lv' := [(5, .null), (4, .int 0), (0, .ref h0), (1, .null), (2, .ref w), (3, .int dep)]) hx hb dX4_doSteps_12 hl (by decide) rfl (fun ls hl => ?_)
      have lp : ∀ (n : Nat) (oc : Int32) (sv : Value) (L1 : List Nat) (f1 : Nat → va_E) (H : Heap) (locs : List Loc) (ls : Array Slot), (LPx (fun s1 => SR g L1 f1 (x0, wk, vs, cl, h0, va) s1 ∧ IV B s1 ∧ FX sA s1) (fun s1 => ∃ x1 : Int32, sv = lkr ad x1 ∧ lk V dp d x1 ∧ ∀ u, EvR 0 x1 0 ck s1 u → EvR 0 x 0 ck sA u) (fun e s1 => EvR 0 x 0 ck sA (e, s1)) oc n) → okv L1 f1 (2, 0, 5, 0) sv → va_P (dC, dI) vwCl (va_pl L1 f1) H → va_D (va_A (va_pl L f) s.heap.size) (va_pl L1 f1) → va_S (va_A (va_pl L f) s.heap.size) s.heap H locs → TP g L1 f1 [(h0, (0, 4, 0)), (w, (0, 0, 0)), (wk, (0, 8, 0)), (vs, (2, g 2, 6))] → Ext L f L1 f1 → Fr [(0, 2), (0, 3), (0, 6), (0, 7), (7, 1), (7, 2), (7, 3), (7, 4), (7, 5), (7, 6), (7, 7), (8, 1), (8, 2), (4, 4), (4, 5), (4, 6), (4, 7)] L f f1 → lv_has ls 6 [(4, .int oc), (5, sv), (0, .ref h0), (1, .null), (2, .ref w), (3, .int dep)] → W p l e (rm_X4_doStepsS j d x0 cl va B ck V ad dp sA x) s m [.ref h0, .null, .ref w, .int dep].toArray below meth c H locs 0 0 (MQ below (Qg (kpost g L f (fun r L' f' => (∃ z : Int32, r = some (.int z)) ∧ Fr [(0, 2), (0, 3), (0, 6), (0, 7), (7, 1), (7, 2), (7, 3), (7, 4), (7, 5), (7, 6), (7, 7), (8, 1), (8, 2), (4, 4), (4, 5), (4, 6), (4, 7)] L f f' ∧ (∃ u : Int32 × AS, EvR 0 x 0 ck sA u ∧ r = some (.int (cO u.1)) ∧ SR g L' f' (x0, wk, vs, cl, h0, va) u.2))) (fun (u : PL) t => QW dC dI (va_A (va_pl L f) s.heap.size) (va_pl u.1 u.2) [] t) (va_A (va_pl L f) s.heap.size)) [.ref h0, .null, .ref w, .int dep].toArray s (0) (0) (va_A (va_pl L f) s.heap.size)) (F0 m 14 ls []) := by
        intro n
        induction n with
        | zero => intro oc sv L1 f1 H locs ls hm hn_sv hP hD hS hT hE hF hl; exact (LPx.z hm).elim
        | succ n ih =>
          intro oc sv L1 f1 H locs ls hm hn_sv hP hD hS hT hE hF hl
          rcases hn_sv with rfl | ⟨b_3, rfl, hb9⟩
          · have hl : lv_has ls 6 [(4, .int oc), (5, .null), (0, .ref h0), (1, .null), (2, .ref w), (3, .int dep)] := hl
            refine lv_aloadN hx hb dX4_doSteps_14 (lv_at hl 1 rfl) ?_
            obtain ⟨s1, ⟨hs1, hi1, hfx1⟩, hgo, hfi, hn0⟩ := hm
            refine lv_ifnullN (tgt := 81) hx hb dX4_doSteps_16 (by decide) ?_
            refine lv_iload hx hb dX4_doSteps_81 (lv_at hl 0 rfl) ?_
            exact K_i hx hb hr hlocks hP hD hK hS hT hE ⟨⟨_, rfl⟩, hF, (by by_cases h9 : oc = 0; (exact ⟨(0, s1), (by obtain ⟨⟨x1, h1, h2, h3⟩, -⟩ := hgo h9; exact h3 _ (EvR.nil (lkr_n h1))), by rw [h9, cO_0], hs1⟩); (obtain ⟨e9, he1, he2⟩ := hfi h9; exact ⟨(e9, s1), he2, by rw [he1], hs1⟩))⟩ (by first | exact Nat.le_of_ble_eq_true rfl | (simp only [rm_X4_doStepsS]; omega) | omega) (by first | exact Nat.le_of_ble_eq_true rfl | (simp only [rm_X4_doStepsS]; omega) | omega) dX4_doSteps_83
          · have hT := hT.add hb9
            have hl : lv_has ls 6 [(4, .int oc), (5, .ref b_3), (0, .ref h0), (1, .null), (2, .ref w), (3, .int dep)] := hl
            refine lv_aload hx hb dX4_doSteps_14 (lv_at hl 1 rfl) ?_
            obtain ⟨s1, ⟨hs1, hi1, hfx1⟩, hgo, hfi, hn0⟩ := hm
            refine lv_ifnull hx hb dX4_doSteps_16 ?_
            refine lv_iload hx hb dX4_doSteps_19 (lv_at hl 0 rfl) ?_
            refine lv_if_ne (tgt := 81) hx hb dX4_doSteps_21 (by decide) (fun c_4 => ?_) (fun c_4 => ?_)
            · refine lv_iload hx hb dX4_doSteps_81 (lv_at hl 0 rfl) ?_
              exact K_i hx hb hr hlocks hP hD hK hS hT hE ⟨⟨_, rfl⟩, hF, (by by_cases h9 : oc = 0; (exact ⟨(0, s1), absurd h9 c_4, by rw [h9, cO_0], hs1⟩); (obtain ⟨e9, he1, he2⟩ := hfi h9; exact ⟨(e9, s1), he2, by rw [he1], hs1⟩))⟩ (by first | exact Nat.le_of_ble_eq_true rfl | (simp only [rm_X4_doStepsS]; omega) | omega) (by first | exact Nat.le_of_ble_eq_true rfl | (simp only [rm_X4_doStepsS]; omega) | omega) dX4_doSteps_83
            · obtain ⟨⟨x1, hsx, hlk1, hgo1⟩, hmn⟩ := hgo c_4
              obtain ⟨hx1, hbx⟩ := lkr_r hsx
              obtain ⟨hkx, hkd9⟩ := lk.nd hLV hlk1 hx1
              have hTR1 := hTR.go hE hF (by decide) (FX.nt hfx1)
              have hSN1 := (hTR1 _ hkx).2
              rw [← hbx] at hSN1
              have hNV1 := hNVs.fx hfx1
              have hLV1 := hLV.go (FX.nt hfx1)
              have hF1 := hF
              have hb0 := (hTR _ hkx).1
              rw [← hbx] at hb0
              refine lv_aload_n hx hb dX4_doSteps_24 rfl (lv_at hl 2 rfl) ?_
              refine K_V ⟨hx, hb, hml, hown, hts⟩ (t_X4_mayCountS l dC dI sa hlt g _ _ x0 cl va s1 h0 wk vs _ (hT.sub [1, 3, 4] rfl)  ((hF.1 h0 (hT0.at 0 rfl).1 4 (hT0.at 0 rfl).2 0 (by decide)).trans h_wk) ((hF.1 wk (hT0.at 2 rfl).1 8 (hT0.at 2 rfl).2 0 (by decide)).trans h_vs) hs1 hi1.2.2.2.2.2.1) (cwV 0 hts gX4_doSteps_X4_mayCount rfl rfl rfl (by decide +kernel) ⟨(by first | exact Nat.le_of_ble_eq_true rfl | (simp only [rm_X4_mayCountS, rm_X4_doStepsS]; omega)), (by first | exact Nat.le_of_ble_eq_true rfl | (simp only [rm_X4_mayCountS, rm_X4_doStepsS]; omega))⟩) hP hD hK hS hA hev hT 1 4 rfl rfl rfl rfl hl.1 rfl (Nat.le_of_ble_eq_true rfl) dX4_doSteps_25 ⟨(by first | exact Nat.le_of_ble_eq_true rfl | (simp only [rm_X4_doStepsS]; omega) | omega), (by first | exact Nat.le_of_ble_eq_true rfl | (simp only [rm_X4_doStepsS]; omega) | omega)⟩ (fun r L_5 f_6 H locs hw_7 hP hD hS hT hE1 => ?_)
              have hF := Fr.call hF hE hw_7.2 (by decide)
              have hE := hE.tr hE1
              obtain ⟨⟨rfl, hz2_8⟩ | ⟨rfl, hz2_8⟩, hw_7⟩ := hw_7
              · obtain ⟨hct_9, hs_10⟩ := hz2_8
                refine W.eq (g2 := F0 m 28 ls [.int 0]) rfl ?_
                refine lv_if_ne (tgt := 37) hx hb dX4_doSteps_28 (by decide) (fun c_11 => ?_) (fun c_11 => ?_)
                · exact absurd c_11 (by decide)
                refine lv_iconst (v := (-1)) hx hb dX4_doSteps_31 (by decide) ?_
                refine lv_istore (lv' := [(4, .int (-1)), (5, .ref b_3), (0, .ref h0), (1, .null), (2, .ref w), (3, .int dep)]) hx hb dX4_doSteps_32 hl (by decide) rfl (fun ls hl => ?_)
                refine lv_goto (tgt := 71) hx hb dX4_doSteps_34 (by decide) ?_
                have hst9 : ∀ j : Nat, rd f_6 b_3 j = rd f1 b_3 j := fun j => ((OF.fr (ci := 5) hF (by decide) _ hb0.1 hb0.2 (by simp) j).trans (OF.fr (ci := 5) hF1 (by decide) _ hb0.1 hb0.2 (by simp) j).symm)
                refine lv_aload hx hb dX4_doSteps_71 (lv_at hl 1 rfl) ?_
                refine T_get (ci := 5) (C := RX5) (T := TX5) (N := 8) (t := (2, 0, 5, 0)) hx hb hts inw_X4_doSteps_5 hown hK hP hT 0 rfl rfl 7 (by decide) (hts (.fieldLink RX4 63 "VatHouse$Step" "next" "LVatHouse$Step;") (List.mem_of_getElem? (i := 2) (by exact rfl))) (fun _ h9 => h9) rfl dX4_doSteps_73 (fun v_14 hv_12 hr_13 => ?_)
                rcases hv_12 with rfl | ⟨b_15, rfl, hb9⟩
                · refine lv_astoreN (lv' := [(5, .null), (4, .int (-1)), (0, .ref h0), (1, .null), (2, .ref w), (3, .int dep)]) hx hb dX4_doSteps_76 hl (by decide) rfl (fun ls hl => ?_)
                  refine lv_goto (tgt := 14) hx hb dX4_doSteps_78 (by decide) ?_
                  exact ih (-1) .null _ _ _ _ _ (⟨s1, ⟨hs_10, hi1, hfx1⟩, fun h9 => absurd h9 (by decide), fun _ => ⟨1000, cO_m.symm, hgo1 _ (EvR.stop hx1 (EvR.lim hct_9) (show ¬ (1000 : Int32) = 0 by decide))⟩, by omega⟩) (Or.inl rfl) hP hD hS (hT.sub [1, 2, 3, 4] rfl) hE hF (lv_sub hl [1, 0, 2, 3, 4, 5] rfl)
                · have hT := hT.add hb9
                  refine lv_astore (lv' := [(5, .ref b_15), (4, .int (-1)), (0, .ref h0), (1, .null), (2, .ref w), (3, .int dep)]) hx hb dX4_doSteps_76 hl (by decide) rfl (fun ls hl => ?_)
                  refine lv_goto (tgt := 14) hx hb dX4_doSteps_78 (by decide) ?_
                  exact ih (-1) (.ref b_15) _ _ _ _ _ (⟨s1, ⟨hs_10, hi1, hfx1⟩, fun h9 => absurd h9 (by decide), fun _ => ⟨1000, cO_m.symm, hgo1 _ (EvR.stop hx1 (EvR.lim hct_9) (show ¬ (1000 : Int32) = 0 by decide))⟩, by omega⟩) (Or.inr ⟨_, rfl, hT.at 0 rfl⟩) hP hD hS (hT.sub [2, 3, 4, 5] rfl) hE hF (lv_sub hl [1, 0, 2, 3, 4, 5] rfl)
              · obtain ⟨hct_16, hs_17⟩ := hz2_8
                have hiv_18 := IV.co hi1 hct_16
                refine W.eq (g2 := F0 m 28 ls [.int 1]) rfl ?_
                refine lv_if_ne (tgt := 37) hx hb dX4_doSteps_28 (by decide) (fun c_19 => ?_) (fun c_19 => ?_)
                rotate_left
                · exact absurd c_19 (by decide)
                have hst9 : ∀ j : Nat, rd f_6 b_3 j = rd f1 b_3 j := fun j => ((OF.fr (ci := 5) hF (by decide) _ hb0.1 hb0.2 (by simp) j).trans (OF.fr (ci := 5) hF1 (by decide) _ hb0.1 hb0.2 (by simp) j).symm)
                refine lv_aload hx hb dX4_doSteps_37 (lv_at hl 1 rfl) ?_
                refine T_get (ci := 5) (C := RX5) (T := TX5) (N := 8) (t := tI) hx hb hts inw_X4_doSteps_5 hown hK hP hT 0 rfl rfl 0 (by decide) (hts (.fieldLink RX4 51 "VatHouse$Step" "word" "I") (List.mem_of_getElem? (i := 1) (by exact rfl))) (fun _ h9 => h9) rfl dX4_doSteps_39 (fun v_22 hv_20 hr_21 => ?_)
                obtain rfl : v_22 = .int (s1.2 26 x1.toNatClampNeg + 1) := hr_21.symm.trans ((hst9 0).trans hSN1.1)
                refine lv_bipush (v := 8) hx hb dX4_doSteps_42 (by decide) ?_
                refine lv_icmp_ge (tgt := 59) hx hb dX4_doSteps_44 (by decide) (fun c_23 => ?_) (fun c_23 => ?_)
                · refine lv_aload_n hx hb dX4_doSteps_59 rfl (lv_at hl 2 rfl) ?_
                  refine lv_aload hx hb dX4_doSteps_60 (lv_at hl 1 rfl) ?_
                  refine lv_aload_n hx hb dX4_doSteps_62 rfl (lv_at hl 4 rfl) ?_
                  refine lv_iload_n hx hb dX4_doSteps_63 rfl (lv_at hl 5 rfl) ?_
                  refine lv_iconst (v := 1) hx hb dX4_doSteps_64 (by decide) ?_
                  refine lv_iadd hx hb dX4_doSteps_65 ?_
                  refine lv_topi (fun z_24 ez_24 => ?_)
                  obtain ⟨j1, hj_25⟩ : ∃ j1, j = j1 + 1 := ⟨j - 1, by omega⟩
                  refine K_V ⟨hx, hb, hml, hown, hts⟩ (IHB j1 (d + 1) (by omega) hj_25 _ _ x0 cl va B ck V ad dp (coA s1) x1.toNatClampNeg h0 b_3 w z_24 wk vs _ (hT.sub [1, 0, 2, 3, 4] rfl)  ((hF.1 h0 (hT0.at 0 rfl).1 4 (hT0.at 0 rfl).2 0 (by decide)).trans h_wk) ((hF.1 wk (hT0.at 2 rfl).1 8 (hT0.at 2 rfl).2 0 (by decide)).trans h_vs) (by rw [ez_24, hd]; exact nI_1 d) hs_17 hiv_18 hB (by rw [(FX.tr hfx1 FX.co).2.2.1]; exact hc) (by rw [ra_eq (hF.2 cl hSR.1.1.2.2.2.1.1 1 _ _ hSR.1.1.2.2.2.1.2 (by decide))]; exact hcl) (hTR.go hE hF (by decide) (FX.nt (FX.tr hfx1 FX.co))) (hLV.go (FX.nt (FX.tr hfx1 FX.co))) (hNVs.fx (FX.tr hfx1 FX.co)) hkx hbx (by rw [hkd9]) ((wd_lt (hNV1 _ hkx).1.1).mp c_23)) (cwV 3 hts gX4_doSteps_X4_doBuilt rfl rfl rfl (by decide +kernel) ⟨(by first | exact Nat.le_of_ble_eq_true rfl | (simp only [rm_X4_doBuiltS, rm_X4_doStepsS]; omega)), (by first | exact Nat.le_of_ble_eq_true rfl | (simp only [rm_X4_doBuiltS, rm_X4_doStepsS]; omega))⟩) hP hD hK hS hA hev hT 1 4 rfl rfl rfl rfl hl.1 rfl (Nat.le_of_ble_eq_true rfl) dX4_doSteps_66 ⟨(by first | exact Nat.le_of_ble_eq_true rfl | (simp only [rm_X4_doStepsS]; omega) | omega), (by first | exact Nat.le_of_ble_eq_true rfl | (simp only [rm_X4_doStepsS]; omega) | omega)⟩ (fun r L_26 f_27 H locs hw_28 hP hD hS hT hE1 => ?_)
                  have hF := Fr.call hF hE hw_28.2.1 (by decide)
                  have hE := hE.tr hE1
                  obtain ⟨⟨z_29, rfl⟩, hw_28⟩ := hw_28
                  obtain ⟨hfr_30, hex_31⟩ := hw_28
                  obtain ⟨u_32, hbr_33, hrr_34, hs_35⟩ := hex_31
                  have hz_29 : z_29 = cO u_32.1 := sv hrr_34
                  have hev_36 : EvR 1 0 x1.toNatClampNeg ck s1 u_32 := EvR.built hct_16 ((wd_lt (hNV1 _ hkx).1.1).mp c_23) hbr_33
                  have hok_37 : OKR B (coA s1) u_32 := BR.inv (B := B) (V := V) hbr_33 hB (hi1.co hct_16) (hNVs.fx (FX.tr hfx1 FX.co)) (by show (ck : Int) < (s1.1 12).toInt; rw [hfx1.2.2.1]; exact hc) hkx
                  have hfx_38 := FX.tr (FX.tr hfx1 FX.co) hok_37.2.1
                  refine W.eq (g2 := F0 m 69 ls [.int z_29]) rfl ?_
                  refine lv_istore (lv' := [(4, .int z_29), (5, .ref b_3), (0, .ref h0), (1, .null), (2, .ref w), (3, .int dep)]) hx hb dX4_doSteps_69 hl (by decide) rfl (fun ls hl => ?_)
                  have hst9 : ∀ j : Nat, rd f_27 b_3 j = rd f1 b_3 j := fun j => ((OF.fr (ci := 5) hF (by decide) _ hb0.1 hb0.2 (by simp) j).trans (OF.fr (ci := 5) hF1 (by decide) _ hb0.1 hb0.2 (by simp) j).symm)
                  refine lv_aload hx hb dX4_doSteps_71 (lv_at hl 1 rfl) ?_
                  refine T_get (ci := 5) (C := RX5) (T := TX5) (N := 8) (t := (2, 0, 5, 0)) hx hb hts inw_X4_doSteps_5 hown hK hP hT 0 rfl rfl 7 (by decide) (hts (.fieldLink RX4 63 "VatHouse$Step" "next" "LVatHouse$Step;") (List.mem_of_getElem? (i := 2) (by exact rfl))) (fun _ h9 => h9) rfl dX4_doSteps_73 (fun v_41 hv_39 hr_40 => ?_)
                  rcases hv_39 with rfl | ⟨b_42, rfl, hb9⟩
                  · refine lv_astoreN (lv' := [(5, .null), (4, .int z_29), (0, .ref h0), (1, .null), (2, .ref w), (3, .int dep)]) hx hb dX4_doSteps_76 hl (by decide) rfl (fun ls hl => ?_)
                    refine lv_goto (tgt := 14) hx hb dX4_doSteps_78 (by decide) ?_
                    exact ih z_29 .null _ _ _ _ _ (⟨u_32.2, ⟨hs_35, hok_37.1, hfx_38⟩, fun h9 => ⟨⟨_, (by rw [congrFun (FX.nt hok_37.2.1 33 (by omega)) x1.toNatClampNeg]; exact hr_40.symm.trans ((hst9 7).trans hSN1.2.2.2.2.2.2.2)), by rw [congrFun (FX.nt hok_37.2.1 33 (by omega)) x1.toNatClampNeg]; exact hkd9 ▸ (hLV1 _ hkx).2.2.2.2.2, fun w9 h8 => hgo1 _ (EvR.go hx1 hev_36 ((cO_z hok_37.2.2.1).1.mp (hz_29 ▸ h9)) h8)⟩, LPm hmn (by have h1 := co_le hi1 hct_16; have h2 := hok_37.2.2.2; omega) (hok_37.2.1.2.2.2.1.trans rfl) hok_37.1.2.2.2.2.2.1⟩, fun h9 => ⟨u_32.1, hz_29, hgo1 _ (EvR.stop hx1 hev_36 (fun e9 => h9 (by rw [hz_29]; exact (cO_z hok_37.2.2.1).1.mpr e9)))⟩, by omega⟩) (Or.inl rfl) hP hD hS (hT.sub [1, 2, 3, 4] rfl) hE hF (lv_sub hl [1, 0, 2, 3, 4, 5] rfl)
                  · have hT := hT.add hb9
                    refine lv_astore (lv' := [(5, .ref b_42), (4, .int z_29), (0, .ref h0), (1, .null), (2, .ref w), (3, .int dep)]) hx hb dX4_doSteps_76 hl (by decide) rfl (fun ls hl => ?_)
                    refine lv_goto (tgt := 14) hx hb dX4_doSteps_78 (by decide) ?_
                    exact ih z_29 (.ref b_42) _ _ _ _ _ (⟨u_32.2, ⟨hs_35, hok_37.1, hfx_38⟩, fun h9 => ⟨⟨_, (by rw [congrFun (FX.nt hok_37.2.1 33 (by omega)) x1.toNatClampNeg]; exact hr_40.symm.trans ((hst9 7).trans hSN1.2.2.2.2.2.2.2)), by rw [congrFun (FX.nt hok_37.2.1 33 (by omega)) x1.toNatClampNeg]; exact hkd9 ▸ (hLV1 _ hkx).2.2.2.2.2, fun w9 h8 => hgo1 _ (EvR.go hx1 hev_36 ((cO_z hok_37.2.2.1).1.mp (hz_29 ▸ h9)) h8)⟩, LPm hmn (by have h1 := co_le hi1 hct_16; have h2 := hok_37.2.2.2; omega) (hok_37.2.1.2.2.2.1.trans rfl) hok_37.1.2.2.2.2.2.1⟩, fun h9 => ⟨u_32.1, hz_29, hgo1 _ (EvR.stop hx1 hev_36 (fun e9 => h9 (by rw [hz_29]; exact (cO_z hok_37.2.2.1).1.mpr e9)))⟩, by omega⟩) (Or.inr ⟨_, rfl, hT.at 0 rfl⟩) hP hD hS (hT.sub [2, 3, 4, 5] rfl) hE hF (lv_sub hl [1, 0, 2, 3, 4, 5] rfl)
                · refine lv_aload_n hx hb dX4_doSteps_47 rfl (lv_at hl 2 rfl) ?_
                  refine lv_aload hx hb dX4_doSteps_48 (lv_at hl 1 rfl) ?_
                  refine lv_aload_n hx hb dX4_doSteps_50 rfl (lv_at hl 4 rfl) ?_
                  refine K_V ⟨hx, hb, hml, hown, hts⟩ (t_X4_doPlainS l dC dI sa hlt g _ _ x0 cl va B ck (coA s1) ad x1.toNatClampNeg h0 b_3 w wk vs _ (hT.sub [1, 0, 2, 3, 4] rfl)  ((hF.1 h0 (hT0.at 0 rfl).1 4 (hT0.at 0 rfl).2 0 (by decide)).trans h_wk) ((hF.1 wk (hT0.at 2 rfl).1 8 (hT0.at 2 rfl).2 0 (by decide)).trans h_vs) hs_17 hiv_18 hB (by rw [(FX.tr hfx1 FX.co).2.2.1]; exact hc) (by rw [ra_eq (hF.2 cl hSR.1.1.2.2.2.1.1 1 _ _ hSR.1.1.2.2.2.1.2 (by decide))]; exact hcl) (hSN1.go (s' := coA s1) hst9 (fun _ _ => rfl)) (hNV1 _ hkx).1 ((Decidable.not_not.mp (fun g9 => c_23 ((wd_lt (hNV1 _ hkx).1.1).mpr g9))))) (cwV 2 hts gX4_doSteps_X4_doPlain rfl rfl rfl (by decide +kernel) ⟨(by first | exact Nat.le_of_ble_eq_true rfl | (simp only [rm_X4_doPlainS, rm_X4_doStepsS]; omega)), (by first | exact Nat.le_of_ble_eq_true rfl | (simp only [rm_X4_doPlainS, rm_X4_doStepsS]; omega))⟩) hP hD hK hS hA hev hT 1 4 rfl rfl rfl rfl hl.1 rfl (Nat.le_of_ble_eq_true rfl) dX4_doSteps_51 ⟨(by first | exact Nat.le_of_ble_eq_true rfl | (simp only [rm_X4_doStepsS]; omega) | omega), (by first | exact Nat.le_of_ble_eq_true rfl | (simp only [rm_X4_doStepsS]; omega) | omega)⟩ (fun r L_43 f_44 H locs hw_45 hP hD hS hT hE1 => ?_)
                  have hF := Fr.call hF hE hw_45.2.1 (by decide)
                  have hE := hE.tr hE1
                  obtain ⟨⟨z_46, rfl⟩, hw_45⟩ := hw_45
                  obtain ⟨hfr_47, hex_48⟩ := hw_45
                  obtain ⟨hrr_49, hs_50⟩ := hex_48
                  have hz_46 : z_46 = cO (plA (coA s1) x1.toNatClampNeg ck).1 := sv hrr_49
                  have hev_51 : EvR 1 0 x1.toNatClampNeg ck s1 (plA (coA s1) x1.toNatClampNeg ck) := EvR.plain hct_16 (((Decidable.not_not.mp (fun g9 => c_23 ((wd_lt (hNV1 _ hkx).1.1).mpr g9)))))
                  have hok_52 : OKR B (coA s1) (plA (coA s1) x1.toNatClampNeg ck) := plA_inv hB (hi1.co hct_16) (hNV1 _ hkx).1 ((Decidable.not_not.mp (fun g9 => c_23 ((wd_lt (hNV1 _ hkx).1.1).mpr g9)))) (by show (ck : Int) < (s1.1 12).toInt; rw [hfx1.2.2.1]; exact hc)
                  have hfx_53 := FX.tr (FX.tr hfx1 FX.co) hok_52.2.1
                  refine W.eq (g2 := F0 m 54 ls [.int z_46]) rfl ?_
                  refine lv_istore (lv' := [(4, .int z_46), (5, .ref b_3), (0, .ref h0), (1, .null), (2, .ref w), (3, .int dep)]) hx hb dX4_doSteps_54 hl (by decide) rfl (fun ls hl => ?_)
                  refine lv_goto (tgt := 71) hx hb dX4_doSteps_56 (by decide) ?_
                  have hst9 : ∀ j : Nat, rd f_44 b_3 j = rd f1 b_3 j := fun j => ((OF.fr (ci := 5) hF (by decide) _ hb0.1 hb0.2 (by simp) j).trans (OF.fr (ci := 5) hF1 (by decide) _ hb0.1 hb0.2 (by simp) j).symm)
                  refine lv_aload hx hb dX4_doSteps_71 (lv_at hl 1 rfl) ?_
                  refine T_get (ci := 5) (C := RX5) (T := TX5) (N := 8) (t := (2, 0, 5, 0)) hx hb hts inw_X4_doSteps_5 hown hK hP hT 0 rfl rfl 7 (by decide) (hts (.fieldLink RX4 63 "VatHouse$Step" "next" "LVatHouse$Step;") (List.mem_of_getElem? (i := 2) (by exact rfl))) (fun _ h9 => h9) rfl dX4_doSteps_73 (fun v_56 hv_54 hr_55 => ?_)
                  rcases hv_54 with rfl | ⟨b_57, rfl, hb9⟩
                  · refine lv_astoreN (lv' := [(5, .null), (4, .int z_46), (0, .ref h0), (1, .null), (2, .ref w), (3, .int dep)]) hx hb dX4_doSteps_76 hl (by decide) rfl (fun ls hl => ?_)
                    refine lv_goto (tgt := 14) hx hb dX4_doSteps_78 (by decide) ?_
                    exact ih z_46 .null _ _ _ _ _ (⟨(plA (coA s1) x1.toNatClampNeg ck).2, ⟨hs_50, hok_52.1, hfx_53⟩, fun h9 => ⟨⟨_, (by rw [congrFun (FX.nt hok_52.2.1 33 (by omega)) x1.toNatClampNeg]; exact hr_55.symm.trans ((hst9 7).trans hSN1.2.2.2.2.2.2.2)), by rw [congrFun (FX.nt hok_52.2.1 33 (by omega)) x1.toNatClampNeg]; exact hkd9 ▸ (hLV1 _ hkx).2.2.2.2.2, fun w9 h8 => hgo1 _ (EvR.go hx1 hev_51 ((cO_z hok_52.2.2.1).1.mp (hz_46 ▸ h9)) h8)⟩, LPm hmn (by have h1 := co_le hi1 hct_16; have h2 := hok_52.2.2.2; omega) (hok_52.2.1.2.2.2.1.trans rfl) hok_52.1.2.2.2.2.2.1⟩, fun h9 => ⟨(plA (coA s1) x1.toNatClampNeg ck).1, hz_46, hgo1 _ (EvR.stop hx1 hev_51 (fun e9 => h9 (by rw [hz_46]; exact (cO_z hok_52.2.2.1).1.mpr e9)))⟩, by omega⟩) (Or.inl rfl) hP hD hS (hT.sub [1, 2, 3, 4] rfl) hE hF (lv_sub hl [1, 0, 2, 3, 4, 5] rfl)
                  · have hT := hT.add hb9
                    refine lv_astore (lv' := [(5, .ref b_57), (4, .int z_46), (0, .ref h0), (1, .null), (2, .ref w), (3, .int dep)]) hx hb dX4_doSteps_76 hl (by decide) rfl (fun ls hl => ?_)
                    refine lv_goto (tgt := 14) hx hb dX4_doSteps_78 (by decide) ?_
                    exact ih z_46 (.ref b_57) _ _ _ _ _ (⟨(plA (coA s1) x1.toNatClampNeg ck).2, ⟨hs_50, hok_52.1, hfx_53⟩, fun h9 => ⟨⟨_, (by rw [congrFun (FX.nt hok_52.2.1 33 (by omega)) x1.toNatClampNeg]; exact hr_55.symm.trans ((hst9 7).trans hSN1.2.2.2.2.2.2.2)), by rw [congrFun (FX.nt hok_52.2.1 33 (by omega)) x1.toNatClampNeg]; exact hkd9 ▸ (hLV1 _ hkx).2.2.2.2.2, fun w9 h8 => hgo1 _ (EvR.go hx1 hev_51 ((cO_z hok_52.2.2.1).1.mp (hz_46 ▸ h9)) h8)⟩, LPm hmn (by have h1 := co_le hi1 hct_16; have h2 := hok_52.2.2.2; omega) (hok_52.2.1.2.2.2.1.trans rfl) hok_52.1.2.2.2.2.2.1⟩, fun h9 => ⟨(plA (coA s1) x1.toNatClampNeg ck).1, hz_46, hgo1 _ (EvR.stop hx1 hev_51 (fun e9 => h9 (by rw [hz_46]; exact (cO_z hok_52.2.2.1).1.mpr e9)))⟩, by omega⟩) (Or.inr ⟨_, rfl, hT.at 0 rfl⟩) hP hD hS (hT.sub [2, 3, 4, 5] rfl) hE hF (lv_sub hl [1, 0, 2, 3, 4, 5] rfl)
      exact lp (((sA.1 39).toInt - (sA.1 40).toInt).toNat + 2) 0 .null _ _ _ _ _ (⟨sA, ⟨hSR, hIV, FX.rf⟩, fun _ => ⟨⟨x, hfs, hlk, fun _ h9 => h9⟩, by omega⟩, fun h9 => absurd rfl h9, by omega⟩) (Or.inl rfl) hP hD hS (hT.sub [0, 1, 2, 3] rfl) hE hF (lv_sub hl [1, 0, 2, 3, 4, 5] rfl)
    · refine lv_iconst (v := (-1)) hx hb dX4_doSteps_6 (by decide) ?_
      exact K_i hx hb hr hlocks hP hD hK hS hT hE ⟨⟨_, rfl⟩, hF, (absurd (by rw [hd]; exact nI_le8 hd8) c_2)⟩ (by first | exact Nat.le_of_ble_eq_true rfl | (simp only [rm_X4_doStepsS]; omega) | omega) (by first | exact Nat.le_of_ble_eq_true rfl | (simp only [rm_X4_doStepsS]; omega) | omega) dX4_doSteps_7
  · have hT := hT.add hb9
    refine CT.start (cc := cX4_doSteps) (maxL := 6) (ret := (some .int)) (by decide) rfl (Nat.le_of_ble_eq_true rfl) ?_
    intro p e s m below meth c ls hst hP hK hD hev hS hl
    obtain ⟨hx, hb, hr, hml, hts, hown, hlocks, hin⟩ := hst
    have hown : s.vm.findClass RX4 = some m.cls := hown
    have hin : meth.name = yX4_doSteps.name := hin
    have hA : ∀ q : Nat, s.heap.size ≤ q → va_A (va_pl L f) s.heap.size q := fun _ h => Or.inr h
    have hE : Ext L f L f := Ext.rf
    have hF : Fr [(0, 2), (0, 3), (0, 6), (0, 7), (7, 1), (7, 2), (7, 3), (7, 4), (7, 5), (7, 6), (7, 7), (8, 1), (8, 2), (4, 4), (4, 5), (4, 6), (4, 7)] L f f := Fr.rf
    have hl : lv_has ls 6 [(0, .ref h0), (1, .ref b_1), (2, .ref w), (3, .int dep)] := hl
    refine lv_iload_n hx hb dX4_doSteps_0 rfl (lv_at hl 3 rfl) ?_
    refine lv_bipush (v := 8) hx hb dX4_doSteps_1 (by decide) ?_
    refine lv_icmp_le (tgt := 8) hx hb dX4_doSteps_3 (by decide) (fun c_58 => ?_) (fun c_58 => ?_)
    · refine lv_iconst (v := 0) hx hb dX4_doSteps_8 (by decide) ?_
      refine lv_istore (lv' := [(4, .int 0), (0, .ref h0), (1, .ref b_1), (2, .ref w), (3, .int dep)]) hx hb dX4_doSteps_9 hl (by decide) rfl (fun ls hl => ?_)
      refine lv_aload_n hx hb dX4_doSteps_11 rfl (lv_at hl 2 rfl) ?_
      refine lv_astore (lv' := [(5, .ref b_1), (4, .int 0), (0, .ref h0), (1, .ref b_1), (2, .ref w), (3, .int dep)]) hx hb dX4_doSteps_12 hl (by decide) rfl (fun ls hl => ?_)
      have lp : ∀ (n : Nat) (oc : Int32) (sv : Value) (L1 : List Nat) (f1 : Nat → va_E) (H : Heap) (locs : List Loc) (ls : Array Slot), (LPx (fun s1 => SR g L1 f1 (x0, wk, vs, cl, h0, va) s1 ∧ IV B s1 ∧ FX sA s1) (fun s1 => ∃ x1 : Int32, sv = lkr ad x1 ∧ lk V dp d x1 ∧ ∀ u, EvR 0 x1 0 ck s1 u → EvR 0 x 0 ck sA u) (fun e s1 => EvR 0 x 0 ck sA (e, s1)) oc n) → okv L1 f1 (2, 0, 5, 0) sv → va_P (dC, dI) vwCl (va_pl L1 f1) H → va_D (va_A (va_pl L f) s.heap.size) (va_pl L1 f1) → va_S (va_A (va_pl L f) s.heap.size) s.heap H locs → TP g L1 f1 [(b_1, (0, 5, 0)), (h0, (0, 4, 0)), (w, (0, 0, 0)), (wk, (0, 8, 0)), (vs, (2, g 2, 6))] → Ext L f L1 f1 → Fr [(0, 2), (0, 3), (0, 6), (0, 7), (7, 1), (7, 2), (7, 3), (7, 4), (7, 5), (7, 6), (7, 7), (8, 1), (8, 2), (4, 4), (4, 5), (4, 6), (4, 7)] L f f1 → lv_has ls 6 [(4, .int oc), (5, sv), (0, .ref h0), (1, .ref b_1), (2, .ref w), (3, .int dep)] → W p l e (rm_X4_doStepsS j d x0 cl va B ck V ad dp sA x) s m [.ref h0, .ref b_1, .ref w, .int dep].toArray below meth c H locs 0 0 (MQ below (Qg (kpost g L f (fun r L' f' => (∃ z : Int32, r = some (.int z)) ∧ Fr [(0, 2), (0, 3), (0, 6), (0, 7), (7, 1), (7, 2), (7, 3), (7, 4), (7, 5), (7, 6), (7, 7), (8, 1), (8, 2), (4, 4), (4, 5), (4, 6), (4, 7)] L f f' ∧ (∃ u : Int32 × AS, EvR 0 x 0 ck sA u ∧ r = some (.int (cO u.1)) ∧ SR g L' f' (x0, wk, vs, cl, h0, va) u.2))) (fun (u : PL) t => QW dC dI (va_A (va_pl L f) s.heap.size) (va_pl u.1 u.2) [] t) (va_A (va_pl L f) s.heap.size)) [.ref h0, .ref b_1, .ref w, .int dep].toArray s (0) (0) (va_A (va_pl L f) s.heap.size)) (F0 m 14 ls []) := by
        intro n
        induction n with
        | zero => intro oc sv L1 f1 H locs ls hm hn_sv hP hD hS hT hE hF hl; exact (LPx.z hm).elim
        | succ n ih =>
          intro oc sv L1 f1 H locs ls hm hn_sv hP hD hS hT hE hF hl
          rcases hn_sv with rfl | ⟨b_59, rfl, hb9⟩
          · have hl : lv_has ls 6 [(4, .int oc), (5, .null), (0, .ref h0), (1, .ref b_1), (2, .ref w), (3, .int dep)] := hl
            refine lv_aloadN hx hb dX4_doSteps_14 (lv_at hl 1 rfl) ?_
            obtain ⟨s1, ⟨hs1, hi1, hfx1⟩, hgo, hfi, hn0⟩ := hm
            refine lv_ifnullN (tgt := 81) hx hb dX4_doSteps_16 (by decide) ?_
            refine lv_iload hx hb dX4_doSteps_81 (lv_at hl 0 rfl) ?_
            exact K_i hx hb hr hlocks hP hD hK hS hT hE ⟨⟨_, rfl⟩, hF, (by by_cases h9 : oc = 0; (exact ⟨(0, s1), (by obtain ⟨⟨x1, h1, h2, h3⟩, -⟩ := hgo h9; exact h3 _ (EvR.nil (lkr_n h1))), by rw [h9, cO_0], hs1⟩); (obtain ⟨e9, he1, he2⟩ := hfi h9; exact ⟨(e9, s1), he2, by rw [he1], hs1⟩))⟩ (by first | exact Nat.le_of_ble_eq_true rfl | (simp only [rm_X4_doStepsS]; omega) | omega) (by first | exact Nat.le_of_ble_eq_true rfl | (simp only [rm_X4_doStepsS]; omega) | omega) dX4_doSteps_83
          · have hT := hT.add hb9
            have hl : lv_has ls 6 [(4, .int oc), (5, .ref b_59), (0, .ref h0), (1, .ref b_1), (2, .ref w), (3, .int dep)] := hl
            refine lv_aload hx hb dX4_doSteps_14 (lv_at hl 1 rfl) ?_
            obtain ⟨s1, ⟨hs1, hi1, hfx1⟩, hgo, hfi, hn0⟩ := hm
            refine lv_ifnull hx hb dX4_doSteps_16 ?_
            refine lv_iload hx hb dX4_doSteps_19 (lv_at hl 0 rfl) ?_
            refine lv_if_ne (tgt := 81) hx hb dX4_doSteps_21 (by decide) (fun c_60 => ?_) (fun c_60 => ?_)
            · refine lv_iload hx hb dX4_doSteps_81 (lv_at hl 0 rfl) ?_
              exact K_i hx hb hr hlocks hP hD hK hS hT hE ⟨⟨_, rfl⟩, hF, (by by_cases h9 : oc = 0; (exact ⟨(0, s1), absurd h9 c_60, by rw [h9, cO_0], hs1⟩); (obtain ⟨e9, he1, he2⟩ := hfi h9; exact ⟨(e9, s1), he2, by rw [he1], hs1⟩))⟩ (by first | exact Nat.le_of_ble_eq_true rfl | (simp only [rm_X4_doStepsS]; omega) | omega) (by first | exact Nat.le_of_ble_eq_true rfl | (simp only [rm_X4_doStepsS]; omega) | omega) dX4_doSteps_83
            · obtain ⟨⟨x1, hsx, hlk1, hgo1⟩, hmn⟩ := hgo c_60
              obtain ⟨hx1, hbx⟩ := lkr_r hsx
              obtain ⟨hkx, hkd9⟩ := lk.nd hLV hlk1 hx1
              have hTR1 := hTR.go hE hF (by decide) (FX.nt hfx1)
              have hSN1 := (hTR1 _ hkx).2
              rw [← hbx] at hSN1
              have hNV1 := hNVs.fx hfx1
              have hLV1 := hLV.go (FX.nt hfx1)
              have hF1 := hF
              have hb0 := (hTR _ hkx).1
              rw [← hbx] at hb0
              refine lv_aload_n hx hb dX4_doSteps_24 rfl (lv_at hl 2 rfl) ?_
              refine K_V ⟨hx, hb, hml, hown, hts⟩ (t_X4_mayCountS l dC dI sa hlt g _ _ x0 cl va s1 h0 wk vs _ (hT.sub [2, 4, 5] rfl)  ((hF.1 h0 (hT0.at 0 rfl).1 4 (hT0.at 0 rfl).2 0 (by decide)).trans h_wk) ((hF.1 wk (hT0.at 2 rfl).1 8 (hT0.at 2 rfl).2 0 (by decide)).trans h_vs) hs1 hi1.2.2.2.2.2.1) (cwV 0 hts gX4_doSteps_X4_mayCount rfl rfl rfl (by decide +kernel) ⟨(by first | exact Nat.le_of_ble_eq_true rfl | (simp only [rm_X4_mayCountS, rm_X4_doStepsS]; omega)), (by first | exact Nat.le_of_ble_eq_true rfl | (simp only [rm_X4_mayCountS, rm_X4_doStepsS]; omega))⟩) hP hD hK hS hA hev hT 2 4 rfl rfl rfl rfl hl.1 rfl (Nat.le_of_ble_eq_true rfl) dX4_doSteps_25 ⟨(by first | exact Nat.le_of_ble_eq_true rfl | (simp only [rm_X4_doStepsS]; omega) | omega), (by first | exact Nat.le_of_ble_eq_true rfl | (simp only [rm_X4_doStepsS]; omega) | omega)⟩ (fun r L_61 f_62 H locs hw_63 hP hD hS hT hE1 => ?_)
              have hF := Fr.call hF hE hw_63.2 (by decide)
              have hE := hE.tr hE1
              obtain ⟨⟨rfl, hz2_64⟩ | ⟨rfl, hz2_64⟩, hw_63⟩ := hw_63
              · obtain ⟨hct_65, hs_66⟩ := hz2_64
                refine W.eq (g2 := F0 m 28 ls [.int 0]) rfl ?_
                refine lv_if_ne (tgt := 37) hx hb dX4_doSteps_28 (by decide) (fun c_67 => ?_) (fun c_67 => ?_)
                · exact absurd c_67 (by decide)
                refine lv_iconst (v := (-1)) hx hb dX4_doSteps_31 (by decide) ?_
                refine lv_istore (lv' := [(4, .int (-1)), (5, .ref b_59), (0, .ref h0), (1, .ref b_1), (2, .ref w), (3, .int dep)]) hx hb dX4_doSteps_32 hl (by decide) rfl (fun ls hl => ?_)
                refine lv_goto (tgt := 71) hx hb dX4_doSteps_34 (by decide) ?_
                have hst9 : ∀ j : Nat, rd f_62 b_59 j = rd f1 b_59 j := fun j => ((OF.fr (ci := 5) hF (by decide) _ hb0.1 hb0.2 (by simp) j).trans (OF.fr (ci := 5) hF1 (by decide) _ hb0.1 hb0.2 (by simp) j).symm)
                refine lv_aload hx hb dX4_doSteps_71 (lv_at hl 1 rfl) ?_
                refine T_get (ci := 5) (C := RX5) (T := TX5) (N := 8) (t := (2, 0, 5, 0)) hx hb hts inw_X4_doSteps_5 hown hK hP hT 0 rfl rfl 7 (by decide) (hts (.fieldLink RX4 63 "VatHouse$Step" "next" "LVatHouse$Step;") (List.mem_of_getElem? (i := 2) (by exact rfl))) (fun _ h9 => h9) rfl dX4_doSteps_73 (fun v_70 hv_68 hr_69 => ?_)
                rcases hv_68 with rfl | ⟨b_71, rfl, hb9⟩
                · refine lv_astoreN (lv' := [(5, .null), (4, .int (-1)), (0, .ref h0), (1, .ref b_1), (2, .ref w), (3, .int dep)]) hx hb dX4_doSteps_76 hl (by decide) rfl (fun ls hl => ?_)
                  refine lv_goto (tgt := 14) hx hb dX4_doSteps_78 (by decide) ?_
                  exact ih (-1) .null _ _ _ _ _ (⟨s1, ⟨hs_66, hi1, hfx1⟩, fun h9 => absurd h9 (by decide), fun _ => ⟨1000, cO_m.symm, hgo1 _ (EvR.stop hx1 (EvR.lim hct_65) (show ¬ (1000 : Int32) = 0 by decide))⟩, by omega⟩) (Or.inl rfl) hP hD hS (hT.sub [1, 2, 3, 4, 5] rfl) hE hF (lv_sub hl [1, 0, 2, 3, 4, 5] rfl)
                · have hT := hT.add hb9
                  refine lv_astore (lv' := [(5, .ref b_71), (4, .int (-1)), (0, .ref h0), (1, .ref b_1), (2, .ref w), (3, .int dep)]) hx hb dX4_doSteps_76 hl (by decide) rfl (fun ls hl => ?_)
                  refine lv_goto (tgt := 14) hx hb dX4_doSteps_78 (by decide) ?_
                  exact ih (-1) (.ref b_71) _ _ _ _ _ (⟨s1, ⟨hs_66, hi1, hfx1⟩, fun h9 => absurd h9 (by decide), fun _ => ⟨1000, cO_m.symm, hgo1 _ (EvR.stop hx1 (EvR.lim hct_65) (show ¬ (1000 : Int32) = 0 by decide))⟩, by omega⟩) (Or.inr ⟨_, rfl, hT.at 0 rfl⟩) hP hD hS (hT.sub [2, 3, 4, 5, 6] rfl) hE hF (lv_sub hl [1, 0, 2, 3, 4, 5] rfl)
              · obtain ⟨hct_72, hs_73⟩ := hz2_64
                have hiv_74 := IV.co hi1 hct_72
                refine W.eq (g2 := F0 m 28 ls [.int 1]) rfl ?_
                refine lv_if_ne (tgt := 37) hx hb dX4_doSteps_28 (by decide) (fun c_75 => ?_) (fun c_75 => ?_)
                rotate_left
                · exact absurd c_75 (by decide)
                have hst9 : ∀ j : Nat, rd f_62 b_59 j = rd f1 b_59 j := fun j => ((OF.fr (ci := 5) hF (by decide) _ hb0.1 hb0.2 (by simp) j).trans (OF.fr (ci := 5) hF1 (by decide) _ hb0.1 hb0.2 (by simp) j).symm)
                refine lv_aload hx hb dX4_doSteps_37 (lv_at hl 1 rfl) ?_
                refine T_get (ci := 5) (C := RX5) (T := TX5) (N := 8) (t := tI) hx hb hts inw_X4_doSteps_5 hown hK hP hT 0 rfl rfl 0 (by decide) (hts (.fieldLink RX4 51 "VatHouse$Step" "word" "I") (List.mem_of_getElem? (i := 1) (by exact rfl))) (fun _ h9 => h9) rfl dX4_doSteps_39 (fun v_78 hv_76 hr_77 => ?_)
                obtain rfl : v_78 = .int (s1.2 26 x1.toNatClampNeg + 1) := hr_77.symm.trans ((hst9 0).trans hSN1.1)
                refine lv_bipush (v := 8) hx hb dX4_doSteps_42 (by decide) ?_
                refine lv_icmp_ge (tgt := 59) hx hb dX4_doSteps_44 (by decide) (fun c_79 => ?_) (fun c_79 => ?_)
                · refine lv_aload_n hx hb dX4_doSteps_59 rfl (lv_at hl 2 rfl) ?_
                  refine lv_aload hx hb dX4_doSteps_60 (lv_at hl 1 rfl) ?_
                  refine lv_aload_n hx hb dX4_doSteps_62 rfl (lv_at hl 4 rfl) ?_
                  refine lv_iload_n hx hb dX4_doSteps_63 rfl (lv_at hl 5 rfl) ?_
                  refine lv_iconst (v := 1) hx hb dX4_doSteps_64 (by decide) ?_
                  refine lv_iadd hx hb dX4_doSteps_65 ?_
                  refine lv_topi (fun z_80 ez_80 => ?_)
                  obtain ⟨j1, hj_81⟩ : ∃ j1, j = j1 + 1 := ⟨j - 1, by omega⟩
                  refine K_V ⟨hx, hb, hml, hown, hts⟩ (IHB j1 (d + 1) (by omega) hj_81 _ _ x0 cl va B ck V ad dp (coA s1) x1.toNatClampNeg h0 b_59 w z_80 wk vs _ (hT.sub [2, 0, 3, 4, 5] rfl)  ((hF.1 h0 (hT0.at 0 rfl).1 4 (hT0.at 0 rfl).2 0 (by decide)).trans h_wk) ((hF.1 wk (hT0.at 2 rfl).1 8 (hT0.at 2 rfl).2 0 (by decide)).trans h_vs) (by rw [ez_80, hd]; exact nI_1 d) hs_73 hiv_74 hB (by rw [(FX.tr hfx1 FX.co).2.2.1]; exact hc) (by rw [ra_eq (hF.2 cl hSR.1.1.2.2.2.1.1 1 _ _ hSR.1.1.2.2.2.1.2 (by decide))]; exact hcl) (hTR.go hE hF (by decide) (FX.nt (FX.tr hfx1 FX.co))) (hLV.go (FX.nt (FX.tr hfx1 FX.co))) (hNVs.fx (FX.tr hfx1 FX.co)) hkx hbx (by rw [hkd9]) ((wd_lt (hNV1 _ hkx).1.1).mp c_79)) (cwV 3 hts gX4_doSteps_X4_doBuilt rfl rfl rfl (by decide +kernel) ⟨(by first | exact Nat.le_of_ble_eq_true rfl | (simp only [rm_X4_doBuiltS, rm_X4_doStepsS]; omega)), (by first | exact Nat.le_of_ble_eq_true rfl | (simp only [rm_X4_doBuiltS, rm_X4_doStepsS]; omega))⟩) hP hD hK hS hA hev hT 2 4 rfl rfl rfl rfl hl.1 rfl (Nat.le_of_ble_eq_true rfl) dX4_doSteps_66 ⟨(by first | exact Nat.le_of_ble_eq_true rfl | (simp only [rm_X4_doStepsS]; omega) | omega), (by first | exact Nat.le_of_ble_eq_true rfl | (simp only [rm_X4_doStepsS]; omega) | omega)⟩ (fun r L_82 f_83 H locs hw_84 hP hD hS hT hE1 => ?_)
                  have hF := Fr.call hF hE hw_84.2.1 (by decide)
                  have hE := hE.tr hE1
                  obtain ⟨⟨z_85, rfl⟩, hw_84⟩ := hw_84
                  obtain ⟨hfr_86, hex_87⟩ := hw_84
                  obtain ⟨u_88, hbr_89, hrr_90, hs_91⟩ := hex_87
                  have hz_85 : z_85 = cO u_88.1 := sv hrr_90
                  have hev_92 : EvR 1 0 x1.toNatClampNeg ck s1 u_88 := EvR.built hct_72 ((wd_lt (hNV1 _ hkx).1.1).mp c_79) hbr_89
                  have hok_93 : OKR B (coA s1) u_88 := BR.inv (B := B) (V := V) hbr_89 hB (hi1.co hct_72) (hNVs.fx (FX.tr hfx1 FX.co)) (by show (ck : Int) < (s1.1 12).toInt; rw [hfx1.2.2.1]; exact hc) hkx
                  have hfx_94 := FX.tr (FX.tr hfx1 FX.co) hok_93.2.1
                  refine W.eq (g2 := F0 m 69 ls [.int z_85]) rfl ?_
                  refine lv_istore (lv' := [(4, .int z_85), (5, .ref b_59), (0, .ref h0), (1, .ref b_1), (2, .ref w), (3, .int dep)]) hx hb dX4_doSteps_69 hl (by decide) rfl (fun ls hl => ?_)
                  have hst9 : ∀ j : Nat, rd f_83 b_59 j = rd f1 b_59 j := fun j => ((OF.fr (ci := 5) hF (by decide) _ hb0.1 hb0.2 (by simp) j).trans (OF.fr (ci := 5) hF1 (by decide) _ hb0.1 hb0.2 (by simp) j).symm)
                  refine lv_aload hx hb dX4_doSteps_71 (lv_at hl 1 rfl) ?_
                  refine T_get (ci := 5) (C := RX5) (T := TX5) (N := 8) (t := (2, 0, 5, 0)) hx hb hts inw_X4_doSteps_5 hown hK hP hT 0 rfl rfl 7 (by decide) (hts (.fieldLink RX4 63 "VatHouse$Step" "next" "LVatHouse$Step;") (List.mem_of_getElem? (i := 2) (by exact rfl))) (fun _ h9 => h9) rfl dX4_doSteps_73 (fun v_97 hv_95 hr_96 => ?_)
                  rcases hv_95 with rfl | ⟨b_98, rfl, hb9⟩
                  · refine lv_astoreN (lv' := [(5, .null), (4, .int z_85), (0, .ref h0), (1, .ref b_1), (2, .ref w), (3, .int dep)]) hx hb dX4_doSteps_76 hl (by decide) rfl (fun ls hl => ?_)
                    refine lv_goto (tgt := 14) hx hb dX4_doSteps_78 (by decide) ?_
                    exact ih z_85 .null _ _ _ _ _ (⟨u_88.2, ⟨hs_91, hok_93.1, hfx_94⟩, fun h9 => ⟨⟨_, (by rw [congrFun (FX.nt hok_93.2.1 33 (by omega)) x1.toNatClampNeg]; exact hr_96.symm.trans ((hst9 7).trans hSN1.2.2.2.2.2.2.2)), by rw [congrFun (FX.nt hok_93.2.1 33 (by omega)) x1.toNatClampNeg]; exact hkd9 ▸ (hLV1 _ hkx).2.2.2.2.2, fun w9 h8 => hgo1 _ (EvR.go hx1 hev_92 ((cO_z hok_93.2.2.1).1.mp (hz_85 ▸ h9)) h8)⟩, LPm hmn (by have h1 := co_le hi1 hct_72; have h2 := hok_93.2.2.2; omega) (hok_93.2.1.2.2.2.1.trans rfl) hok_93.1.2.2.2.2.2.1⟩, fun h9 => ⟨u_88.1, hz_85, hgo1 _ (EvR.stop hx1 hev_92 (fun e9 => h9 (by rw [hz_85]; exact (cO_z hok_93.2.2.1).1.mpr e9)))⟩, by omega⟩) (Or.inl rfl) hP hD hS (hT.sub [1, 2, 3, 4, 5] rfl) hE hF (lv_sub hl [1, 0, 2, 3, 4, 5] rfl)
                  · have hT := hT.add hb9
                    refine lv_astore (lv' := [(5, .ref b_98), (4, .int z_85), (0, .ref h0), (1, .ref b_1), (2, .ref w), (3, .int dep)]) hx hb dX4_doSteps_76 hl (by decide) rfl (fun ls hl => ?_)
                    refine lv_goto (tgt := 14) hx hb dX4_doSteps_78 (by decide) ?_
                    exact ih z_85 (.ref b_98) _ _ _ _ _ (⟨u_88.2, ⟨hs_91, hok_93.1, hfx_94⟩, fun h9 => ⟨⟨_, (by rw [congrFun (FX.nt hok_93.2.1 33 (by omega)) x1.toNatClampNeg]; exact hr_96.symm.trans ((hst9 7).trans hSN1.2.2.2.2.2.2.2)), by rw [congrFun (FX.nt hok_93.2.1 33 (by omega)) x1.toNatClampNeg]; exact hkd9 ▸ (hLV1 _ hkx).2.2.2.2.2, fun w9 h8 => hgo1 _ (EvR.go hx1 hev_92 ((cO_z hok_93.2.2.1).1.mp (hz_85 ▸ h9)) h8)⟩, LPm hmn (by have h1 := co_le hi1 hct_72; have h2 := hok_93.2.2.2; omega) (hok_93.2.1.2.2.2.1.trans rfl) hok_93.1.2.2.2.2.2.1⟩, fun h9 => ⟨u_88.1, hz_85, hgo1 _ (EvR.stop hx1 hev_92 (fun e9 => h9 (by rw [hz_85]; exact (cO_z hok_93.2.2.1).1.mpr e9)))⟩, by omega⟩) (Or.inr ⟨_, rfl, hT.at 0 rfl⟩) hP hD hS (hT.sub [2, 3, 4, 5, 6] rfl) hE hF (lv_sub hl [1, 0, 2, 3, 4, 5] rfl)
                · refine lv_aload_n hx hb dX4_doSteps_47 rfl (lv_at hl 2 rfl) ?_
                  refine lv_aload hx hb dX4_doSteps_48 (lv_at hl 1 rfl) ?_
                  refine lv_aload_n hx hb dX4_doSteps_50 rfl (lv_at hl 4 rfl) ?_
                  refine K_V ⟨hx, hb, hml, hown, hts⟩ (t_X4_doPlainS l dC dI sa hlt g _ _ x0 cl va B ck (coA s1) ad x1.toNatClampNeg h0 b_59 w wk vs _ (hT.sub [2, 0, 3, 4, 5] rfl)  ((hF.1 h0 (hT0.at 0 rfl).1 4 (hT0.at 0 rfl).2 0 (by decide)).trans h_wk) ((hF.1 wk (hT0.at 2 rfl).1 8 (hT0.at 2 rfl).2 0 (by decide)).trans h_vs) hs_73 hiv_74 hB (by rw [(FX.tr hfx1 FX.co).2.2.1]; exact hc) (by rw [ra_eq (hF.2 cl hSR.1.1.2.2.2.1.1 1 _ _ hSR.1.1.2.2.2.1.2 (by decide))]; exact hcl) (hSN1.go (s' := coA s1) hst9 (fun _ _ => rfl)) (hNV1 _ hkx).1 ((Decidable.not_not.mp (fun g9 => c_79 ((wd_lt (hNV1 _ hkx).1.1).mpr g9))))) (cwV 2 hts gX4_doSteps_X4_doPlain rfl rfl rfl (by decide +kernel) ⟨(by first | exact Nat.le_of_ble_eq_true rfl | (simp only [rm_X4_doPlainS, rm_X4_doStepsS]; omega)), (by first | exact Nat.le_of_ble_eq_true rfl | (simp only [rm_X4_doPlainS, rm_X4_doStepsS]; omega))⟩) hP hD hK hS hA hev hT 2 4 rfl rfl rfl rfl hl.1 rfl (Nat.le_of_ble_eq_true rfl) dX4_doSteps_51 ⟨(by first | exact Nat.le_of_ble_eq_true rfl | (simp only [rm_X4_doStepsS]; omega) | omega), (by first | exact Nat.le_of_ble_eq_true rfl | (simp only [rm_X4_doStepsS]; omega) | omega)⟩ (fun r L_99 f_100 H locs hw_101 hP hD hS hT hE1 => ?_)
                  have hF := Fr.call hF hE hw_101.2.1 (by decide)
                  have hE := hE.tr hE1
                  obtain ⟨⟨z_102, rfl⟩, hw_101⟩ := hw_101
                  obtain ⟨hfr_103, hex_104⟩ := hw_101
                  obtain ⟨hrr_105, hs_106⟩ := hex_104
                  have hz_102 : z_102 = cO (plA (coA s1) x1.toNatClampNeg ck).1 := sv hrr_105
                  have hev_107 : EvR 1 0 x1.toNatClampNeg ck s1 (plA (coA s1) x1.toNatClampNeg ck) := EvR.plain hct_72 (((Decidable.not_not.mp (fun g9 => c_79 ((wd_lt (hNV1 _ hkx).1.1).mpr g9)))))
                  have hok_108 : OKR B (coA s1) (plA (coA s1) x1.toNatClampNeg ck) := plA_inv hB (hi1.co hct_72) (hNV1 _ hkx).1 ((Decidable.not_not.mp (fun g9 => c_79 ((wd_lt (hNV1 _ hkx).1.1).mpr g9)))) (by show (ck : Int) < (s1.1 12).toInt; rw [hfx1.2.2.1]; exact hc)
                  have hfx_109 := FX.tr (FX.tr hfx1 FX.co) hok_108.2.1
                  refine W.eq (g2 := F0 m 54 ls [.int z_102]) rfl ?_
                  refine lv_istore (lv' := [(4, .int z_102), (5, .ref b_59), (0, .ref h0), (1, .ref b_1), (2, .ref w), (3, .int dep)]) hx hb dX4_doSteps_54 hl (by decide) rfl (fun ls hl => ?_)
                  refine lv_goto (tgt := 71) hx hb dX4_doSteps_56 (by decide) ?_
                  have hst9 : ∀ j : Nat, rd f_100 b_59 j = rd f1 b_59 j := fun j => ((OF.fr (ci := 5) hF (by decide) _ hb0.1 hb0.2 (by simp) j).trans (OF.fr (ci := 5) hF1 (by decide) _ hb0.1 hb0.2 (by simp) j).symm)
                  refine lv_aload hx hb dX4_doSteps_71 (lv_at hl 1 rfl) ?_
                  refine T_get (ci := 5) (C := RX5) (T := TX5) (N := 8) (t := (2, 0, 5, 0)) hx hb hts inw_X4_doSteps_5 hown hK hP hT 0 rfl rfl 7 (by decide) (hts (.fieldLink RX4 63 "VatHouse$Step" "next" "LVatHouse$Step;") (List.mem_of_getElem? (i := 2) (by exact rfl))) (fun _ h9 => h9) rfl dX4_doSteps_73 (fun v_112 hv_110 hr_111 => ?_)
                  rcases hv_110 with rfl | ⟨b_113, rfl, hb9⟩
                  · refine lv_astoreN (lv' := [(5, .null), (4, .int z_102), (0, .ref h0), (1, .ref b_1), (2, .ref w), (3, .int dep)]) hx hb dX4_doSteps_76 hl (by decide) rfl (fun ls hl => ?_)
                    refine lv_goto (tgt := 14) hx hb dX4_doSteps_78 (by decide) ?_
                    exact ih z_102 .null _ _ _ _ _ (⟨(plA (coA s1) x1.toNatClampNeg ck).2, ⟨hs_106, hok_108.1, hfx_109⟩, fun h9 => ⟨⟨_, (by rw [congrFun (FX.nt hok_108.2.1 33 (by omega)) x1.toNatClampNeg]; exact hr_111.symm.trans ((hst9 7).trans hSN1.2.2.2.2.2.2.2)), by rw [congrFun (FX.nt hok_108.2.1 33 (by omega)) x1.toNatClampNeg]; exact hkd9 ▸ (hLV1 _ hkx).2.2.2.2.2, fun w9 h8 => hgo1 _ (EvR.go hx1 hev_107 ((cO_z hok_108.2.2.1).1.mp (hz_102 ▸ h9)) h8)⟩, LPm hmn (by have h1 := co_le hi1 hct_72; have h2 := hok_108.2.2.2; omega) (hok_108.2.1.2.2.2.1.trans rfl) hok_108.1.2.2.2.2.2.1⟩, fun h9 => ⟨(plA (coA s1) x1.toNatClampNeg ck).1, hz_102, hgo1 _ (EvR.stop hx1 hev_107 (fun e9 => h9 (by rw [hz_102]; exact (cO_z hok_108.2.2.1).1.mpr e9)))⟩, by omega⟩) (Or.inl rfl) hP hD hS (hT.sub [1, 2, 3, 4, 5] rfl) hE hF (lv_sub hl [1, 0, 2, 3, 4, 5] rfl)
                  · have hT := hT.add hb9
                    refine lv_astore (lv' := [(5, .ref b_113), (4, .int z_102), (0, .ref h0), (1, .ref b_1), (2, .ref w), (3, .int dep)]) hx hb dX4_doSteps_76 hl (by decide) rfl (fun ls hl => ?_)
                    refine lv_goto (tgt := 14) hx hb dX4_doSteps_78 (by decide) ?_
                    exact ih z_102 (.ref b_113) _ _ _ _ _ (⟨(plA (coA s1) x1.toNatClampNeg ck).2, ⟨hs_106, hok_108.1, hfx_109⟩, fun h9 => ⟨⟨_, (by rw [congrFun (FX.nt hok_108.2.1 33 (by omega)) x1.toNatClampNeg]; exact hr_111.symm.trans ((hst9 7).trans hSN1.2.2.2.2.2.2.2)), by rw [congrFun (FX.nt hok_108.2.1 33 (by omega)) x1.toNatClampNeg]; exact hkd9 ▸ (hLV1 _ hkx).2.2.2.2.2, fun w9 h8 => hgo1 _ (EvR.go hx1 hev_107 ((cO_z hok_108.2.2.1).1.mp (hz_102 ▸ h9)) h8)⟩, LPm hmn (by have h1 := co_le hi1 hct_72; have h2 := hok_108.2.2.2; omega) (hok_108.2.1.2.2.2.1.trans rfl) hok_108.1.2.2.2.2.2.1⟩, fun h9 => ⟨(plA (coA s1) x1.toNatClampNeg ck).1, hz_102, hgo1 _ (EvR.stop hx1 hev_107 (fun e9 => h9 (by rw [hz_102]; exact (cO_z hok_108.2.2.1).1.mpr e9)))⟩, by omega⟩) (Or.inr ⟨_, rfl, hT.at 0 rfl⟩) hP hD hS (hT.sub [2, 3, 4, 5, 6] rfl) hE hF (lv_sub hl [1, 0, 2, 3, 4, 5] rfl)
      exact lp (((sA.1 39).toInt - (sA.1 40).toInt).toNat + 2) 0 (.ref b_1) _ _ _ _ _ (⟨sA, ⟨hSR, hIV, FX.rf⟩, fun _ => ⟨⟨x, hfs, hlk, fun _ h9 => h9⟩, by omega⟩, fun h9 => absurd rfl h9, by omega⟩) (Or.inr ⟨_, rfl, hT.at 0 rfl⟩) hP hD hS (hT.sub [0, 1, 2, 3, 4] rfl) hE hF (lv_sub hl [1, 0, 2, 3, 4, 5] rfl)
    · refine lv_iconst (v := (-1)) hx hb dX4_doSteps_6 (by decide) ?_
      exact K_i hx hb hr hlocks hP hD hK hS hT hE ⟨⟨_, rfl⟩, hF, (absurd (by rw [hd]; exact nI_le8 hd8) c_58)⟩ (by first | exact Nat.le_of_ble_eq_true rfl | (simp only [rm_X4_doStepsS]; omega) | omega) (by first | exact Nat.le_of_ble_eq_true rfl | (simp only [rm_X4_doStepsS]; omega) | omega) dX4_doSteps_7
