theorem nfX0 : ∀ j, j < 8 → defaultValue (tyX0 j) = vp_V [.int 0, .int 0, .int 0, .int 0, .int 0, .int 0, .int 0, .int 0] j := fun j hj => by
  match j, hj with
  | 0, _ => rfl
  | 1, _ => rfl
  | 2, _ => rfl
  | 3, _ => rfl
  | 4, _ => rfl
  | 5, _ => rfl
  | 6, _ => rfl
  | 7, _ => rfl
  | n + 8, h => exact absurd h (by omega)

theorem nfX3 : ∀ j, j < 1 → defaultValue (tyX3 j) = vp_V [.null] j := fun j hj => by
  match j, hj with
  | 0, _ => rfl
  | n + 1, h => exact absurd h (by omega)

theorem nfX5 : ∀ j, j < 8 → defaultValue (tyX5 j) = vp_V [.int 0, .int 0, .int 0, .int 0, .int 0, .null, .null, .null] j := fun j hj => by
  match j, hj with
  | 0, _ => rfl
  | 1, _ => rfl
  | 2, _ => rfl
  | 3, _ => rfl
  | 4, _ => rfl
  | 5, _ => rfl
  | 6, _ => rfl
  | 7, _ => rfl
  | n + 8, h => exact absurd h (by omega)

theorem up_le {ii : Int32} {n k : Nat} (hk : k + 1 < 2 ^ 31) (hm : ∃ a : Nat, ii = nI a ∧ a ≤ k + 1 ∧ k + 1 < a + (n + 1)) (h : ¬ nI k < ii) : ∃ a : Nat, ii + 1 = nI a ∧ a ≤ k + 1 ∧ k + 1 < a + n := by
  obtain ⟨a, rfl, h1, h2⟩ := hm
  have h3 : a ≤ k := by
    rcases Nat.lt_or_ge k a with h4 | h4
    · exact absurd (nI_lt h4 (by omega)) h
    · exact h4
  exact ⟨a + 1, nI_1 a, by omega, by omega⟩
def Dbl (x : Int32) (n : Nat) : Prop := (x = 1 ∧ 4 < n) ∨ (x = 2 ∧ 3 < n) ∨ (x = 4 ∧ 2 < n) ∨ (x = 8 ∧ 1 < n) ∨ (x = 16 ∧ 0 < n)
theorem Dbl.z {x : Int32} (h : Dbl x 0) : False := by
  rcases h with ⟨-, h⟩ | ⟨-, h⟩ | ⟨-, h⟩ | ⟨-, h⟩ | ⟨-, h⟩ <;> omega
theorem Dbl.nx {x z : Int32} {n : Nat} (h : Dbl x (n + 1)) (h8 : ¬ 8 < x) (hz : z = x * 2) : Dbl z n := by
  subst hz
  rcases h with ⟨rfl, h⟩ | ⟨rfl, h⟩ | ⟨rfl, h⟩ | ⟨rfl, h⟩ | ⟨rfl, h⟩
  · exact Or.inr (Or.inl ⟨by decide, by omega⟩)
  · exact Or.inr (Or.inr (Or.inl ⟨by decide, by omega⟩))
  · exact Or.inr (Or.inr (Or.inr (Or.inl ⟨by decide, by omega⟩)))
  · exact Or.inr (Or.inr (Or.inr (Or.inr ⟨by decide, by omega⟩)))
  · exact absurd (by decide) h8
theorem lv3 {x : Int32} {d : Nat} (hd : x = nI d) (h : x < 3) (hb : d ≤ 3) : d < 3 := by
  subst hd
  rcases Nat.lt_or_ge d 3 with h1 | h1
  · exact h1
  · have : d = 3 := by omega
    subst this
    exact absurd h (by decide)
/-- append: the shift, the times done, the tape's length -/
def Ap (tl k : Int32) (x : Int32) (n : Nat) : Prop := ∃ i : Nat, ((i = 0 ∧ x = 24) ∨ (i = 1 ∧ x = 16) ∨ (i = 2 ∧ x = 8) ∨ (i = 3 ∧ x = 0) ∨ (i = 4 ∧ x = -8)) ∧ 4 < i + n ∧ (0 ≤ tl.toInt → tl.toInt ≤ 1496 → k.toInt = tl.toInt + i)
theorem Ap.z {tl k x : Int32} (h : Ap tl k x 0) : False := by
  obtain ⟨i, h1, h2, -⟩ := h
  rcases h1 with ⟨h, -⟩ | ⟨h, -⟩ | ⟨h, -⟩ | ⟨h, -⟩ | ⟨h, -⟩ <;> omega
theorem Ap.nx {tl k k2 x : Int32} {n : Nat} (h : Ap tl k x (n + 1)) (h0 : ¬ x < 0) (hk : 0 ≤ k.toInt → k.toInt ≤ 1499 → k2.toInt = k.toInt + 1) : Ap tl k2 (x + (-8)) n := by
  obtain ⟨i, h1, h2, h3⟩ := h
  refine ⟨i + 1, ?_, by omega, fun a b => ?_⟩
  · rcases h1 with ⟨rfl, rfl⟩ | ⟨rfl, rfl⟩ | ⟨rfl, rfl⟩ | ⟨rfl, rfl⟩ | ⟨rfl, rfl⟩
    · exact Or.inr (Or.inl ⟨rfl, by decide⟩)
    · exact Or.inr (Or.inr (Or.inl ⟨rfl, by decide⟩))
    · exact Or.inr (Or.inr (Or.inr (Or.inl ⟨rfl, by decide⟩)))
    · exact Or.inr (Or.inr (Or.inr (Or.inr ⟨rfl, by decide⟩)))
    · exact absurd (by decide) h0
  · have h4 := h3 a b
    have h5 : i ≤ 3 := by
      rcases h1 with ⟨h, -⟩ | ⟨h, -⟩ | ⟨h, -⟩ | ⟨h, -⟩ | ⟨h, e⟩
      · omega
      · omega
      · omega
      · omega
      · subst e; exact absurd (by decide) h0
    have := hk (by omega) (by omega)
    push_cast
    omega
theorem Ap.e {tl k x : Int32} {n : Nat} (h : Ap tl k x n) (h0 : x < 0) : 0 ≤ tl.toInt → tl.toInt ≤ 1496 → k.toInt = tl.toInt + 4 := by
  obtain ⟨i, h1, -, h3⟩ := h
  intro a b
  have := h3 a b
  rcases h1 with ⟨rfl, rfl⟩ | ⟨rfl, rfl⟩ | ⟨rfl, rfl⟩ | ⟨rfl, rfl⟩ | ⟨rfl, rfl⟩
  · exact absurd h0 (by decide)
  · exact absurd h0 (by decide)
  · exact absurd h0 (by decide)
  · exact absurd h0 (by decide)
  · exact this
theorem ap_a {k k2 : Int32} (h : k < 0) : 0 ≤ k.toInt → k.toInt ≤ 1499 → k2.toInt = k.toInt + 1 := fun a _ => by
  rw [Int32.lt_iff_toInt_lt] at h
  have e : (0 : Int32).toInt = 0 := by decide
  omega
theorem ap_b {k k2 : Int32} (h : 1500 ≤ k) : 0 ≤ k.toInt → k.toInt ≤ 1499 → k2.toInt = k.toInt + 1 := fun _ b => by
  rw [Int32.le_iff_toInt_le] at h
  have e : (1500 : Int32).toInt = 1500 := by decide
  omega
theorem ap_c {k z : Int32} (h : ¬ 1500 ≤ k) (hz : z = k + 1) : 0 ≤ k.toInt → k.toInt ≤ 1499 → z.toInt = k.toInt + 1 := fun _ _ => by
  rw [hz]
  exact inc_toInt (b := 1500) (by
    rw [Int32.lt_iff_toInt_lt]
    rw [Int32.le_iff_toInt_le] at h
    omega)

abbrev rm_X1_reaches (j : Nat) (d : Nat) : Room := { frames := 2 * j + 20, cells := 0, slots := 0, locals := 100 * j + 300 }
abbrev rm_X1_reachesBy (j : Nat) (d : Nat) : Room := { frames := 2 * j + 19, cells := 0, slots := 0, locals := 100 * j + 260 }
theorem inw_X1_reachesBy_0 : ∀ w ∈ wsX00, w ∈ wsX1_reachesBy := by decide +kernel
theorem inw_X1_reachesBy_1 : ∀ w ∈ wsX10, w ∈ wsX1_reachesBy := by decide +kernel
theorem inw_X1_reachesBy_7 : ∀ w ∈ wsX70, w ∈ wsX1_reachesBy := by decide +kernel
set_option maxHeartbeats 800000 in
set_option maxRecDepth 100000 in
theorem t_X1_reachesBy (l : Launch) (dC : Nat → ClassId) (dI : Nat → Nat → Nat) (sa : Nat → Nat) (hlt : l.stackTraces = false) (g : Nat → Nat) (L : List Nat) (f : Nat → va_E) (j : Nat) (d : Nat) (h0 : Nat) (v : Nat) (mm : Int32) (pl : Int32) (wa : Int32) (sz : Nat) (hT : TP g L f [(h0, (0, 1, 0)), (v, (0, 7, 0))]) (hd : pl = nI d) (hdj : d + j = 3) (IHR : ∀ j' d' : Nat, d' + j' = 3 → j = j' + 1 → ∀ (L : List Nat) (f : Nat → va_E) (h0 : Nat) (pl : Int32) (wa : Int32) (sz : Nat) (hT : TP g L f [(h0, (0, 1, 0))]) (hd : pl = nI d'), KC l dC dI sa g yX1_reaches wsX1_reaches (rm_X1_reaches j' d') [.ref h0, .int pl, .int wa] L f sz (fun r L' f' => (∃ z : Int32, r = some (.int z) ∧ (z = 0 ∨ z = 1)) ∧ Fr [(0, 0), (0, 1), (0, 2), (0, 3), (0, 4), (0, 5), (0, 6), (0, 7), (7, 0), (7, 1), (7, 2), (7, 3), (7, 4), (7, 5), (7, 6), (7, 7), (100, 3)] L f f') 0 0) : KC l dC dI sa g yX1_reachesBy wsX1_reachesBy (rm_X1_reachesBy j d) [.ref h0, .ref v, .int mm, .int pl, .int wa] L f sz (fun r L' f' => (∃ z : Int32, r = some (.int z) ∧ (z = 0 ∨ z = 1)) ∧ Fr [(0, 0), (0, 1), (0, 2), (0, 3), (0, 4), (0, 5), (0, 6), (0, 7), (7, 0), (7, 1), (7, 2), (7, 3), (7, 4), (7, 5), (7, 6), (7, 7), (100, 3)] L f f') 0 0 := by
  refine CT.start (cc := cX1_reachesBy) (maxL := 13) (ret := (some .boolean)) (by decide) rfl (Nat.le_of_ble_eq_true rfl) ?_
  intro p e s m below meth c ls hst hP hK hD hev hS hl
  obtain ⟨hx, hb, hr, hml, hts, hown, hlocks, hin⟩ := hst
  have hown : s.vm.findClass RX1 = some m.cls := hown
  have hin : meth.name = yX1_reachesBy.name := hin
  have hA : ∀ q : Nat, s.heap.size ≤ q → va_A (va_pl L f) s.heap.size q := fun _ h => Or.inr h
  have hE : Ext L f L f := Ext.rf
  have hF : Fr [(0, 0), (0, 1), (0, 2), (0, 3), (0, 4), (0, 5), (0, 6), (0, 7), (7, 0), (7, 1), (7, 2), (7, 3), (7, 4), (7, 5), (7, 6), (7, 7), (100, 3)] L f f := Fr.rf
  have hl : lv_has ls 13 [(0, .ref h0), (1, .ref v), (2, .int mm), (3, .int pl), (4, .int wa)] := hl
  refine lv_aload_n hx hb dX1_reachesBy_0 rfl (lv_at hl 1 rfl) ?_
  refine lv_aload_n hx hb dX1_reachesBy_1 rfl (lv_at hl 0 rfl) ?_
  refine T_get (ci := 1) (C := RX1) (T := TX1) (N := 9) (t := (1, 0, 0, 0)) hx hb hts inw_X1_reachesBy_1 hown hK hP hT 0 rfl rfl 2 (by decide) (hts (.fieldLink RX1 22 "VatHouse$Planner" "trialCloth" "LVatHouse$Cloth;") (by decide +kernel)) (fun _ h9 => h9) rfl dX1_reachesBy_2 (fun v_3 hv_1 hr_2 => ?_)
  obtain ⟨b_4, rfl, hb9⟩ := hv_1
  have hT := hT.add hb9
  refine lv_iload_n hx hb dX1_reachesBy_5 rfl (lv_at hl 2 rfl) ?_
  refine K_V ⟨hx, hb, hml, hown, hts⟩ (t_X7_givesTo l dC dI sa hlt g _ _ v b_4 mm _ (hT.sub [2, 0] rfl)  ) (cwV 2 hts gX1_reachesBy_X7_givesTo rfl rfl rfl (by decide +kernel) ⟨(by first | exact Nat.le_of_ble_eq_true rfl | (simp only [rm_X7_givesTo, rm_X1_reachesBy]; omega)), (by first | exact Nat.le_of_ble_eq_true rfl | (simp only [rm_X7_givesTo, rm_X1_reachesBy]; omega))⟩) hP hD hK hS hA hev hT 2 7 rfl rfl rfl rfl hl.1 rfl (Nat.le_of_ble_eq_true rfl) dX1_reachesBy_6 ⟨(by first | exact Nat.le_of_ble_eq_true rfl | (simp only [rm_X1_reachesBy]; omega) | omega), (by first | exact Nat.le_of_ble_eq_true rfl | (simp only [rm_X1_reachesBy]; omega) | omega)⟩ (fun r L_5 f_6 H locs hw_7 hP hD hS hT hE1 => ?_)
  have hF := Fr.call hF hE hw_7.2 (by decide)
  have hE := hE.tr hE1
  obtain ⟨⟨z_8, rfl⟩, hw_7⟩ := hw_7
  refine W.eq (g2 := F0 m 9 ls [.int z_8]) rfl ?_
  refine lv_istore (lv' := [(5, .int z_8), (0, .ref h0), (1, .ref v), (2, .int mm), (3, .int pl), (4, .int wa)]) hx hb dX1_reachesBy_9 hl (by decide) rfl (fun ls hl => ?_)
  refine lv_iload hx hb dX1_reachesBy_11 (lv_at hl 0 rfl) ?_
  refine lv_iconst (v := 1) hx hb dX1_reachesBy_13 (by decide) ?_
  refine lv_icmp_lt (tgt := 26) hx hb dX1_reachesBy_14 (by decide) (fun c_9 => ?_) (fun c_9 => ?_)
  · refine lv_iconst (v := 0) hx hb dX1_reachesBy_26 (by decide) ?_
    exact K_z hx hb hr rfl hlocks hP hD hK hS hT hE ⟨⟨_, rfl, Or.inl rfl⟩, hF⟩ (by first | exact Nat.le_of_ble_eq_true rfl | (simp only [rm_X1_reachesBy]; omega) | omega) (by first | exact Nat.le_of_ble_eq_true rfl | (simp only [rm_X1_reachesBy]; omega) | omega) dX1_reachesBy_27
  · refine lv_iload_n hx hb dX1_reachesBy_17 rfl (lv_at hl 4 rfl) ?_
    refine lv_if_lt (tgt := 26) hx hb dX1_reachesBy_18 (by decide) (fun c_10 => ?_) (fun c_10 => ?_)
    · refine lv_iconst (v := 0) hx hb dX1_reachesBy_26 (by decide) ?_
      exact K_z hx hb hr rfl hlocks hP hD hK hS hT hE ⟨⟨_, rfl, Or.inl rfl⟩, hF⟩ (by first | exact Nat.le_of_ble_eq_true rfl | (simp only [rm_X1_reachesBy]; omega) | omega) (by first | exact Nat.le_of_ble_eq_true rfl | (simp only [rm_X1_reachesBy]; omega) | omega) dX1_reachesBy_27
    · refine lv_iload_n hx hb dX1_reachesBy_21 rfl (lv_at hl 4 rfl) ?_
      refine lv_iconst (v := 3) hx hb dX1_reachesBy_22 (by decide) ?_
      refine lv_icmp_lt (tgt := 28) hx hb dX1_reachesBy_23 (by decide) (fun c_11 => ?_) (fun c_11 => ?_)
      · refine lv_aload_n hx hb dX1_reachesBy_28 rfl (lv_at hl 2 rfl) ?_
        refine T_get (ci := 7) (C := RX7) (T := TX7) (N := 8) (t := tI) hx hb hts inw_X1_reachesBy_7 hown hK hP hT 2 rfl rfl 1 (by decide) (hts (.fieldLink RX1 85 "VatHouse$Vat" "grains" "I") (by decide +kernel)) (fun _ h9 => h9) rfl dX1_reachesBy_29 (fun v_14 hv_12 hr_13 => ?_)
        obtain ⟨z_15, rfl⟩ := hv_12
        refine lv_istore (lv' := [(6, .int z_15), (5, .int z_8), (0, .ref h0), (1, .ref v), (2, .int mm), (3, .int pl), (4, .int wa)]) hx hb dX1_reachesBy_32 hl (by decide) rfl (fun ls hl => ?_)
        refine lv_aload_n hx hb dX1_reachesBy_34 rfl (lv_at hl 3 rfl) ?_
        refine T_get (ci := 7) (C := RX7) (T := TX7) (N := 8) (t := tI) hx hb hts inw_X1_reachesBy_7 hown hK hP hT 2 rfl rfl 2 (by decide) (hts (.fieldLink RX1 88 "VatHouse$Vat" "food" "I") (by decide +kernel)) (fun _ h9 => h9) rfl dX1_reachesBy_35 (fun v_18 hv_16 hr_17 => ?_)
        obtain ⟨z_19, rfl⟩ := hv_16
        refine lv_istore (lv' := [(7, .int z_19), (6, .int z_15), (5, .int z_8), (0, .ref h0), (1, .ref v), (2, .int mm), (3, .int pl), (4, .int wa)]) hx hb dX1_reachesBy_38 hl (by decide) rfl (fun ls hl => ?_)
        refine lv_aload_n hx hb dX1_reachesBy_40 rfl (lv_at hl 4 rfl) ?_
        refine T_get (ci := 7) (C := RX7) (T := TX7) (N := 8) (t := tI) hx hb hts inw_X1_reachesBy_7 hown hK hP hT 2 rfl rfl 3 (by decide) (hts (.fieldLink RX1 91 "VatHouse$Vat" "minutes" "I") (by decide +kernel)) (fun _ h9 => h9) rfl dX1_reachesBy_41 (fun v_22 hv_20 hr_21 => ?_)
        obtain ⟨z_23, rfl⟩ := hv_20
        refine lv_istore (lv' := [(8, .int z_23), (7, .int z_19), (6, .int z_15), (5, .int z_8), (0, .ref h0), (1, .ref v), (2, .int mm), (3, .int pl), (4, .int wa)]) hx hb dX1_reachesBy_44 hl (by decide) rfl (fun ls hl => ?_)
        refine lv_aload_n hx hb dX1_reachesBy_46 rfl (lv_at hl 5 rfl) ?_
        refine T_get (ci := 7) (C := RX7) (T := TX7) (N := 8) (t := tI) hx hb hts inw_X1_reachesBy_7 hown hK hP hT 2 rfl rfl 4 (by decide) (hts (.fieldLink RX1 94 "VatHouse$Vat" "state" "I") (by decide +kernel)) (fun _ h9 => h9) rfl dX1_reachesBy_47 (fun v_26 hv_24 hr_25 => ?_)
        obtain ⟨z_27, rfl⟩ := hv_24
        refine lv_istore (lv' := [(9, .int z_27), (8, .int z_23), (7, .int z_19), (6, .int z_15), (5, .int z_8), (0, .ref h0), (1, .ref v), (2, .int mm), (3, .int pl), (4, .int wa)]) hx hb dX1_reachesBy_50 hl (by decide) rfl (fun ls hl => ?_)
        refine lv_aload_n hx hb dX1_reachesBy_52 rfl (lv_at hl 5 rfl) ?_
        refine T_get (ci := 1) (C := RX1) (T := TX1) (N := 9) (t := (1, 0, 0, 0)) hx hb hts inw_X1_reachesBy_1 hown hK hP hT 1 rfl rfl 2 (by decide) (hts (.fieldLink RX1 22 "VatHouse$Planner" "trialCloth" "LVatHouse$Cloth;") (by decide +kernel)) (fun _ h9 => h9) rfl dX1_reachesBy_53 (fun v_30 hv_28 hr_29 => ?_)
        obtain ⟨b_31, rfl, hb9⟩ := hv_28
        have hT := hT.add hb9
        refine T_get (ci := 0) (C := RX0) (T := TX0) (N := 8) (t := tI) hx hb hts inw_X1_reachesBy_0 hown hK hP hT 0 rfl rfl 2 (by decide) (hts (.fieldLink RX1 70 "VatHouse$Cloth" "loose" "I") (by decide +kernel)) (fun _ h9 => h9) rfl dX1_reachesBy_56 (fun v_34 hv_32 hr_33 => ?_)
        obtain ⟨z_35, rfl⟩ := hv_32
        refine lv_istore (lv' := [(10, .int z_35), (9, .int z_27), (8, .int z_23), (7, .int z_19), (6, .int z_15), (5, .int z_8), (0, .ref h0), (1, .ref v), (2, .int mm), (3, .int pl), (4, .int wa)]) hx hb dX1_reachesBy_59 hl (by decide) rfl (fun ls hl => ?_)
        refine lv_aload_n hx hb dX1_reachesBy_61 rfl (lv_at hl 6 rfl) ?_
        refine T_get (ci := 1) (C := RX1) (T := TX1) (N := 9) (t := (1, 0, 0, 0)) hx hb hts inw_X1_reachesBy_1 hown hK hP hT 2 rfl rfl 2 (by decide) (hts (.fieldLink RX1 22 "VatHouse$Planner" "trialCloth" "LVatHouse$Cloth;") (by decide +kernel)) (fun _ h9 => h9) rfl dX1_reachesBy_62 (fun v_38 hv_36 hr_37 => ?_)
        obtain rfl : v_38 = .ref b_31 := hr_37.symm.trans hr_29
        refine T_get (ci := 0) (C := RX0) (T := TX0) (N := 8) (t := tI) hx hb hts inw_X1_reachesBy_0 hown hK hP hT 0 rfl rfl 3 (by decide) (hts (.fieldLink RX1 97 "VatHouse$Cloth" "fast" "I") (by decide +kernel)) (fun _ h9 => h9) rfl dX1_reachesBy_65 (fun v_41 hv_39 hr_40 => ?_)
        obtain ⟨z_42, rfl⟩ := hv_39
        refine lv_istore (lv' := [(11, .int z_42), (10, .int z_35), (9, .int z_27), (8, .int z_23), (7, .int z_19), (6, .int z_15), (5, .int z_8), (0, .ref h0), (1, .ref v), (2, .int mm), (3, .int pl), (4, .int wa)]) hx hb dX1_reachesBy_68 hl (by decide) rfl (fun ls hl => ?_)
        refine lv_aload_n hx hb dX1_reachesBy_70 rfl (lv_at hl 8 rfl) ?_
        refine lv_aload_n hx hb dX1_reachesBy_71 rfl (lv_at hl 7 rfl) ?_
        refine T_get (ci := 1) (C := RX1) (T := TX1) (N := 9) (t := (1, 0, 0, 0)) hx hb hts inw_X1_reachesBy_1 hown hK hP hT 2 rfl rfl 2 (by decide) (hts (.fieldLink RX1 22 "VatHouse$Planner" "trialCloth" "LVatHouse$Cloth;") (by decide +kernel)) (fun _ h9 => h9) rfl dX1_reachesBy_72 (fun v_45 hv_43 hr_44 => ?_)
        obtain rfl : v_45 = .ref b_31 := hr_44.symm.trans hr_29
        refine lv_iload_n hx hb dX1_reachesBy_75 rfl (lv_at hl 9 rfl) ?_
        refine lv_iload hx hb dX1_reachesBy_76 (lv_at hl 6 rfl) ?_
        refine K_V ⟨hx, hb, hml, hown, hts⟩ (t_X7_soak l dC dI sa hlt g _ _ v b_31 mm z_8 _ (hT.sub [3, 0] rfl)  ) (cwV 3 hts gX1_reachesBy_X7_soak rfl rfl rfl (by decide +kernel) ⟨(by first | exact Nat.le_of_ble_eq_true rfl | (simp only [rm_X7_soak, rm_X1_reachesBy]; omega)), (by first | exact Nat.le_of_ble_eq_true rfl | (simp only [rm_X7_soak, rm_X1_reachesBy]; omega))⟩) hP hD hK hS hA hev hT 3 7 rfl rfl rfl rfl hl.1 rfl (Nat.le_of_ble_eq_true rfl) dX1_reachesBy_78 ⟨(by first | exact Nat.le_of_ble_eq_true rfl | (simp only [rm_X1_reachesBy]; omega) | omega), (by first | exact Nat.le_of_ble_eq_true rfl | (simp only [rm_X1_reachesBy]; omega) | omega)⟩ (fun r L_46 f_47 H locs hw_48 hP hD hS hT hE1 => ?_)
        have hF := Fr.call hF hE hw_48.2 (by decide)
        have hE := hE.tr hE1
        obtain ⟨rfl, hw_48⟩ := hw_48
        refine W.eq (g2 := F0 m 81 ls []) rfl ?_
        refine lv_aload_n hx hb dX1_reachesBy_81 rfl (lv_at hl 7 rfl) ?_
        refine T_get (ci := 1) (C := RX1) (T := TX1) (N := 9) (t := (1, 0, 0, 0)) hx hb hts inw_X1_reachesBy_1 hown hK hP hT 2 rfl rfl 2 (by decide) (hts (.fieldLink RX1 22 "VatHouse$Planner" "trialCloth" "LVatHouse$Cloth;") (by decide +kernel)) (fun _ h9 => h9) rfl dX1_reachesBy_82 (fun v_51 hv_49 hr_50 => ?_)
        obtain ⟨b_52, rfl, hb9⟩ := hv_49
        have hT := hT.add hb9
        refine K_V ⟨hx, hb, hml, hown, hts⟩ (t_X0_loseByAir l dC dI sa hlt g _ _ b_52 _ (hT.sub [0] rfl)  ) (cwV 0 hts gX1_reachesBy_X0_loseByAir rfl rfl rfl (by decide +kernel) ⟨(by first | exact Nat.le_of_ble_eq_true rfl | (simp only [rm_X0_loseByAir, rm_X1_reachesBy]; omega)), (by first | exact Nat.le_of_ble_eq_true rfl | (simp only [rm_X0_loseByAir, rm_X1_reachesBy]; omega))⟩) hP hD hK hS hA hev hT 0 0 rfl rfl rfl rfl hl.1 rfl (Nat.le_of_ble_eq_true rfl) dX1_reachesBy_85 ⟨(by first | exact Nat.le_of_ble_eq_true rfl | (simp only [rm_X1_reachesBy]; omega) | omega), (by first | exact Nat.le_of_ble_eq_true rfl | (simp only [rm_X1_reachesBy]; omega) | omega)⟩ (fun r L_53 f_54 H locs hw_55 hP hD hS hT hE1 => ?_)
        have hF := Fr.call hF hE hw_55.2 (by decide)
        have hE := hE.tr hE1
        obtain ⟨⟨z_56, rfl⟩, hw_55⟩ := hw_55
        refine W.eq (g2 := F0 m 88 ls [.int z_56]) rfl ?_
        refine lv_pop hx hb dX1_reachesBy_88 rfl ?_
        refine lv_aload_n hx hb dX1_reachesBy_89 rfl (lv_at hl 7 rfl) ?_
        refine T_get (ci := 1) (C := RX1) (T := TX1) (N := 9) (t := (1, 1, g 7, 3)) hx hb hts inw_X1_reachesBy_1 hown hK hP hT 3 rfl rfl 6 (by decide) (hts (.fieldLink RX1 26 "VatHouse$Planner" "keptVats" "[I") (by decide +kernel)) (fun _ h9 => h9) rfl dX1_reachesBy_90 (fun v_59 hv_57 hr_58 => ?_)
        obtain ⟨b_60, rfl, hb9⟩ := hv_57
        have hT := hT.add hb9
        refine lv_iload_n hx hb dX1_reachesBy_93 rfl (lv_at hl 10 rfl) ?_
        refine lv_aload_n hx hb dX1_reachesBy_94 rfl (lv_at hl 8 rfl) ?_
        refine T_get (ci := 7) (C := RX7) (T := TX7) (N := 8) (t := tI) hx hb hts inw_X1_reachesBy_7 hown hK hP hT 5 rfl rfl 0 (by decide) (hts (.fieldLink RX1 107 "VatHouse$Vat" "number" "I") (by decide +kernel)) (fun _ h9 => h9) rfl dX1_reachesBy_95 (fun v_63 hv_61 hr_62 => ?_)
        obtain ⟨z_64, rfl⟩ := hv_61
        refine T_iast hx hb hK hP hD hS hT 0 7 rfl rfl (vin 3 (by decide) rfl (by assumption) (lt_nle (by assumption))) dX1_reachesBy_98 (fun f_65 H locs hP hD hS hT hE1 hrd_66 hup_67 hia_68 => ?_)
        have hF := Fr.arr (a := b_60) hF hE ((hE1 b_60 (hT.at 0 rfl).1).2.symm.trans (hT.at 0 rfl).2) (by decide) hrd_66 hup_67
        have hE := hE.tr hE1
        refine lv_aload_n hx hb dX1_reachesBy_99 rfl (lv_at hl 7 rfl) ?_
        refine T_get (ci := 1) (C := RX1) (T := TX1) (N := 9) (t := (1, 1, g 8, 3)) hx hb hts inw_X1_reachesBy_1 hown hK hP hT 4 rfl rfl 7 (by decide) (hts (.fieldLink RX1 30 "VatHouse$Planner" "keptMinutes" "[I") (by decide +kernel)) (fun _ h9 => h9) rfl dX1_reachesBy_100 (fun v_71 hv_69 hr_70 => ?_)
        obtain ⟨b_72, rfl, hb9⟩ := hv_69
        have hT := hT.add hb9
        refine lv_iload_n hx hb dX1_reachesBy_103 rfl (lv_at hl 10 rfl) ?_
        refine lv_iload_n hx hb dX1_reachesBy_104 rfl (lv_at hl 9 rfl) ?_
        refine T_iast hx hb hK hP hD hS hT 0 8 rfl rfl (vin 3 (by decide) rfl (by assumption) (lt_nle (by assumption))) dX1_reachesBy_105 (fun f_73 H locs hP hD hS hT hE1 hrd_74 hup_75 hia_76 => ?_)
        have hF := Fr.arr (a := b_72) hF hE ((hE1 b_72 (hT.at 0 rfl).1).2.symm.trans (hT.at 0 rfl).2) (by decide) hrd_74 hup_75
        have hE := hE.tr hE1
        refine lv_aload_n hx hb dX1_reachesBy_106 rfl (lv_at hl 7 rfl) ?_
        refine T_get (ci := 1) (C := RX1) (T := TX1) (N := 9) (t := (1, 1, g 9, 3)) hx hb hts inw_X1_reachesBy_1 hown hK hP hT 5 rfl rfl 8 (by decide) (hts (.fieldLink RX1 33 "VatHouse$Planner" "keptShades" "[I") (by decide +kernel)) (fun _ h9 => h9) rfl dX1_reachesBy_107 (fun v_79 hv_77 hr_78 => ?_)
        obtain ⟨b_80, rfl, hb9⟩ := hv_77
        have hT := hT.add hb9
        refine lv_iload_n hx hb dX1_reachesBy_110 rfl (lv_at hl 10 rfl) ?_
        refine lv_aload_n hx hb dX1_reachesBy_111 rfl (lv_at hl 7 rfl) ?_
        refine T_get (ci := 1) (C := RX1) (T := TX1) (N := 9) (t := (1, 0, 0, 0)) hx hb hts inw_X1_reachesBy_1 hown hK hP hT 6 rfl rfl 2 (by decide) (hts (.fieldLink RX1 22 "VatHouse$Planner" "trialCloth" "LVatHouse$Cloth;") (by decide +kernel)) (fun _ h9 => h9) rfl dX1_reachesBy_112 (fun v_83 hv_81 hr_82 => ?_)
        obtain ⟨b_84, rfl, hb9⟩ := hv_81
        have hT := hT.add hb9
        refine K_V ⟨hx, hb, hml, hown, hts⟩ (t_X0_shade l dC dI sa hlt g _ _ b_84 _ (hT.sub [0] rfl)  ) (cwV 0 hts gX1_reachesBy_X0_shade rfl rfl rfl (by decide +kernel) ⟨(by first | exact Nat.le_of_ble_eq_true rfl | (simp only [rm_X0_shade, rm_X1_reachesBy]; omega)), (by first | exact Nat.le_of_ble_eq_true rfl | (simp only [rm_X0_shade, rm_X1_reachesBy]; omega))⟩) hP hD hK hS hA hev hT 0 0 rfl rfl rfl rfl hl.1 rfl (Nat.le_of_ble_eq_true rfl) dX1_reachesBy_115 ⟨(by first | exact Nat.le_of_ble_eq_true rfl | (simp only [rm_X1_reachesBy]; omega) | omega), (by first | exact Nat.le_of_ble_eq_true rfl | (simp only [rm_X1_reachesBy]; omega) | omega)⟩ (fun r L_85 f_86 H locs hw_87 hP hD hS hT hE1 => ?_)
        have hF := Fr.call hF hE hw_87.2 (by decide)
        have hE := hE.tr hE1
        obtain ⟨⟨z_88, rfl⟩, hw_87⟩ := hw_87
        refine W.eq (g2 := F0 m 118 ls [.int z_88, .int pl, .ref b_80]) rfl ?_
        refine T_iast hx hb hK hP hD hS hT 1 9 rfl rfl (vin 3 (by decide) rfl (by assumption) (lt_nle (by assumption))) dX1_reachesBy_118 (fun f_89 H locs hP hD hS hT hE1 hrd_90 hup_91 hia_92 => ?_)
        have hF := Fr.arr (a := b_80) hF hE ((hE1 b_80 (hT.at 1 rfl).1).2.symm.trans (hT.at 1 rfl).2) (by decide) hrd_90 hup_91
        have hE := hE.tr hE1
        refine lv_aload_n hx hb dX1_reachesBy_119 rfl (lv_at hl 7 rfl) ?_
        refine T_get (ci := 1) (C := RX1) (T := TX1) (N := 9) (t := (1, 1, g 9, 3)) hx hb hts inw_X1_reachesBy_1 hown hK hP hT 7 rfl rfl 8 (by decide) (hts (.fieldLink RX1 33 "VatHouse$Planner" "keptShades" "[I") (by decide +kernel)) (fun _ h9 => h9) rfl dX1_reachesBy_120 (fun v_95 hv_93 hr_94 => ?_)
        obtain ⟨b_96, rfl, hb9⟩ := hv_93
        have hT := hT.add hb9
        refine lv_iload_n hx hb dX1_reachesBy_123 rfl (lv_at hl 10 rfl) ?_
        refine T_iald hx hb hK hP hT 0 9 rfl rfl (vin 3 (by decide) rfl (by assumption) (lt_nle (by assumption))) dX1_reachesBy_124 (fun z_97 ez_97 => ?_)
        refine lv_aload_n hx hb dX1_reachesBy_125 rfl (lv_at hl 7 rfl) ?_
        refine T_get (ci := 1) (C := RX1) (T := TX1) (N := 9) (t := tI) hx hb hts inw_X1_reachesBy_1 hown hK hP hT 8 rfl rfl 4 (by decide) (hts (.fieldLink RX1 47 "VatHouse$Planner" "high" "I") (by decide +kernel)) (fun _ h9 => h9) rfl dX1_reachesBy_126 (fun v_100 hv_98 hr_99 => ?_)
        obtain ⟨z_101, rfl⟩ := hv_98
        refine lv_icmp_gt (tgt := 148) hx hb dX1_reachesBy_129 (by decide) (fun c_102 => ?_) (fun c_102 => ?_)
        · refine lv_iconst (v := 0) hx hb dX1_reachesBy_148 (by decide) ?_
          refine lv_istore (lv' := [(12, .int 0), (11, .int z_42), (10, .int z_35), (9, .int z_27), (8, .int z_23), (7, .int z_19), (6, .int z_15), (5, .int z_8), (0, .ref h0), (1, .ref v), (2, .int mm), (3, .int pl), (4, .int wa)]) hx hb dX1_reachesBy_149 hl (by decide) rfl (fun ls hl => ?_)
          refine lv_aload_n hx hb dX1_reachesBy_151 rfl (lv_at hl 9 rfl) ?_
          refine lv_iload hx hb dX1_reachesBy_152 (lv_at hl 6 rfl) ?_
          refine T_put (ci := 7) (v := .int z_15) (ty := .int) (t := tI) (C := RX7) (T := TX7) (N := 8) hx hb hts inw_X1_reachesBy_7 tyX7 tyX7_ok nmX7 hown hK hP hD hS hT 9 rfl rfl 1 (by decide) (hts (.fieldLink RX1 85 "VatHouse$Vat" "grains" "I") (by decide +kernel)) (fun _ h9 => h9) rfl (by decide +kernel) rfl rfl rfl ⟨_, rfl⟩ dX1_reachesBy_154 (fun f_103 H locs hP hD hS hT hE1 hrd_104 hup_105 => ?_)
          have hF := Fr.put (a := v) (ci := 7) hF hE ((hE1 v (hT.at 9 rfl).1).2.symm.trans (hT.at 9 rfl).2) (by decide) hrd_104 hup_105
          have hE := hE.tr hE1
          refine lv_aload_n hx hb dX1_reachesBy_157 rfl (lv_at hl 9 rfl) ?_
          refine lv_iload hx hb dX1_reachesBy_158 (lv_at hl 5 rfl) ?_
          refine T_put (ci := 7) (v := .int z_19) (ty := .int) (t := tI) (C := RX7) (T := TX7) (N := 8) hx hb hts inw_X1_reachesBy_7 tyX7 tyX7_ok nmX7 hown hK hP hD hS hT 9 rfl rfl 2 (by decide) (hts (.fieldLink RX1 88 "VatHouse$Vat" "food" "I") (by decide +kernel)) (fun _ h9 => h9) rfl (by decide +kernel) rfl rfl rfl ⟨_, rfl⟩ dX1_reachesBy_160 (fun f_106 H locs hP hD hS hT hE1 hrd_107 hup_108 => ?_)
          have hF := Fr.put (a := v) (ci := 7) hF hE ((hE1 v (hT.at 9 rfl).1).2.symm.trans (hT.at 9 rfl).2) (by decide) hrd_107 hup_108
          have hE := hE.tr hE1
          refine lv_aload_n hx hb dX1_reachesBy_163 rfl (lv_at hl 9 rfl) ?_
          refine lv_iload hx hb dX1_reachesBy_164 (lv_at hl 4 rfl) ?_
          refine T_put (ci := 7) (v := .int z_23) (ty := .int) (t := tI) (C := RX7) (T := TX7) (N := 8) hx hb hts inw_X1_reachesBy_7 tyX7 tyX7_ok nmX7 hown hK hP hD hS hT 9 rfl rfl 3 (by decide) (hts (.fieldLink RX1 91 "VatHouse$Vat" "minutes" "I") (by decide +kernel)) (fun _ h9 => h9) rfl (by decide +kernel) rfl rfl rfl ⟨_, rfl⟩ dX1_reachesBy_166 (fun f_109 H locs hP hD hS hT hE1 hrd_110 hup_111 => ?_)
          have hF := Fr.put (a := v) (ci := 7) hF hE ((hE1 v (hT.at 9 rfl).1).2.symm.trans (hT.at 9 rfl).2) (by decide) hrd_110 hup_111
          have hE := hE.tr hE1
          refine lv_aload_n hx hb dX1_reachesBy_169 rfl (lv_at hl 9 rfl) ?_
          refine lv_iload hx hb dX1_reachesBy_170 (lv_at hl 3 rfl) ?_
          refine T_put (ci := 7) (v := .int z_27) (ty := .int) (t := tI) (C := RX7) (T := TX7) (N := 8) hx hb hts inw_X1_reachesBy_7 tyX7 tyX7_ok nmX7 hown hK hP hD hS hT 9 rfl rfl 4 (by decide) (hts (.fieldLink RX1 94 "VatHouse$Vat" "state" "I") (by decide +kernel)) (fun _ h9 => h9) rfl (by decide +kernel) rfl rfl rfl ⟨_, rfl⟩ dX1_reachesBy_172 (fun f_112 H locs hP hD hS hT hE1 hrd_113 hup_114 => ?_)
          have hF := Fr.put (a := v) (ci := 7) hF hE ((hE1 v (hT.at 9 rfl).1).2.symm.trans (hT.at 9 rfl).2) (by decide) hrd_113 hup_114
          have hE := hE.tr hE1
          refine lv_aload_n hx hb dX1_reachesBy_175 rfl (lv_at hl 8 rfl) ?_
          refine T_get (ci := 1) (C := RX1) (T := TX1) (N := 9) (t := (1, 0, 0, 0)) hx hb hts inw_X1_reachesBy_1 hown hK hP hT 8 rfl rfl 2 (by decide) (hts (.fieldLink RX1 22 "VatHouse$Planner" "trialCloth" "LVatHouse$Cloth;") (by decide +kernel)) (fun _ h9 => h9) rfl dX1_reachesBy_176 (fun v_117 hv_115 hr_116 => ?_)
          obtain ⟨b_118, rfl, hb9⟩ := hv_115
          have hT := hT.add hb9
          refine lv_iload hx hb dX1_reachesBy_179 (lv_at hl 2 rfl) ?_
          refine T_put (ci := 0) (v := .int z_35) (ty := .int) (t := tI) (C := RX0) (T := TX0) (N := 8) hx hb hts inw_X1_reachesBy_0 tyX0 tyX0_ok nmX0 hown hK hP hD hS hT 0 rfl rfl 2 (by decide) (hts (.fieldLink RX1 70 "VatHouse$Cloth" "loose" "I") (by decide +kernel)) (fun _ h9 => h9) rfl (by decide +kernel) rfl rfl rfl ⟨_, rfl⟩ dX1_reachesBy_181 (fun f_119 H locs hP hD hS hT hE1 hrd_120 hup_121 => ?_)
          have hF := Fr.put (a := b_118) (ci := 0) hF hE ((hE1 b_118 (hT.at 0 rfl).1).2.symm.trans (hT.at 0 rfl).2) (by decide) hrd_120 hup_121
          have hE := hE.tr hE1
          refine lv_aload_n hx hb dX1_reachesBy_184 rfl (lv_at hl 8 rfl) ?_
          refine T_get (ci := 1) (C := RX1) (T := TX1) (N := 9) (t := (1, 0, 0, 0)) hx hb hts inw_X1_reachesBy_1 hown hK hP hT 9 rfl rfl 2 (by decide) (hts (.fieldLink RX1 22 "VatHouse$Planner" "trialCloth" "LVatHouse$Cloth;") (by decide +kernel)) (fun _ h9 => h9) rfl dX1_reachesBy_185 (fun v_124 hv_122 hr_123 => ?_)
          obtain ⟨b_125, rfl, hb9⟩ := hv_122
          have hT := hT.add hb9
          refine lv_iload hx hb dX1_reachesBy_188 (lv_at hl 1 rfl) ?_
          refine T_put (ci := 0) (v := .int z_42) (ty := .int) (t := tI) (C := RX0) (T := TX0) (N := 8) hx hb hts inw_X1_reachesBy_0 tyX0 tyX0_ok nmX0 hown hK hP hD hS hT 0 rfl rfl 3 (by decide) (hts (.fieldLink RX1 97 "VatHouse$Cloth" "fast" "I") (by decide +kernel)) (fun _ h9 => h9) rfl (by decide +kernel) rfl rfl rfl ⟨_, rfl⟩ dX1_reachesBy_190 (fun f_126 H locs hP hD hS hT hE1 hrd_127 hup_128 => ?_)
          have hF := Fr.put (a := b_125) (ci := 0) hF hE ((hE1 b_125 (hT.at 0 rfl).1).2.symm.trans (hT.at 0 rfl).2) (by decide) hrd_127 hup_128
          have hE := hE.tr hE1
          refine lv_iload hx hb dX1_reachesBy_193 (lv_at hl 0 rfl) ?_
          exact K_z hx hb hr rfl hlocks hP hD hK hS hT hE ⟨⟨_, rfl, Or.inl rfl⟩, hF⟩ (by first | exact Nat.le_of_ble_eq_true rfl | (simp only [rm_X1_reachesBy]; omega) | omega) (by first | exact Nat.le_of_ble_eq_true rfl | (simp only [rm_X1_reachesBy]; omega) | omega) dX1_reachesBy_195
        · refine lv_aload_n hx hb dX1_reachesBy_132 rfl (lv_at hl 7 rfl) ?_
          refine lv_iload_n hx hb dX1_reachesBy_133 rfl (lv_at hl 10 rfl) ?_
          refine lv_iconst (v := 1) hx hb dX1_reachesBy_134 (by decide) ?_
          refine lv_iadd hx hb dX1_reachesBy_135 ?_
          refine lv_topi (fun z_129 ez_129 => ?_)
          refine lv_iload hx hb dX1_reachesBy_136 (lv_at hl 11 rfl) ?_
          obtain ⟨j1, hj_130⟩ : ∃ j1, j = j1 + 1 := ⟨j - 1, by have := lv3 hd (by assumption) (by omega); omega⟩
          refine K_V ⟨hx, hb, hml, hown, hts⟩ (IHR j1 (d + 1) (by omega) hj_130 _ _ h0 z_129 wa _ (hT.sub [8] rfl)  (by rw [ez_129, hd]; exact nI_1 d)) (cwV 2 hts gX1_reachesBy_X1_reaches rfl rfl rfl (by decide +kernel) ⟨(by first | exact Nat.le_of_ble_eq_true rfl | (simp only [rm_X1_reaches, rm_X1_reachesBy]; omega)), (by first | exact Nat.le_of_ble_eq_true rfl | (simp only [rm_X1_reaches, rm_X1_reachesBy]; omega))⟩) hP hD hK hS hA hev hT 8 1 rfl rfl rfl rfl hl.1 rfl (Nat.le_of_ble_eq_true rfl) dX1_reachesBy_138 ⟨(by first | exact Nat.le_of_ble_eq_true rfl | (simp only [rm_X1_reachesBy]; omega) | omega), (by first | exact Nat.le_of_ble_eq_true rfl | (simp only [rm_X1_reachesBy]; omega) | omega)⟩ (fun r L_131 f_132 H locs hw_133 hP hD hS hT hE1 => ?_)
          have hF := Fr.call hF hE hw_133.2 (by decide)
          have hE := hE.tr hE1
          obtain ⟨⟨z_134, rfl, hz_z_134⟩, hw_133⟩ := hw_133
          refine W.eq (g2 := F0 m 141 ls [.int z_134]) rfl ?_
          refine lv_if_eq (tgt := 148) hx hb dX1_reachesBy_141 (by decide) (fun c_135 => ?_) (fun c_135 => ?_)
          · refine lv_iconst (v := 0) hx hb dX1_reachesBy_148 (by decide) ?_
            refine lv_istore (lv' := [(12, .int 0), (11, .int z_42), (10, .int z_35), (9, .int z_27), (8, .int z_23), (7, .int z_19), (6, .int z_15), (5, .int z_8), (0, .ref h0), (1, .ref v), (2, .int mm), (3, .int pl), (4, .int wa)]) hx hb dX1_reachesBy_149 hl (by decide) rfl (fun ls hl => ?_)
            refine lv_aload_n hx hb dX1_reachesBy_151 rfl (lv_at hl 9 rfl) ?_
            refine lv_iload hx hb dX1_reachesBy_152 (lv_at hl 6 rfl) ?_
            refine T_put (ci := 7) (v := .int z_15) (ty := .int) (t := tI) (C := RX7) (T := TX7) (N := 8) hx hb hts inw_X1_reachesBy_7 tyX7 tyX7_ok nmX7 hown hK hP hD hS hT 9 rfl rfl 1 (by decide) (hts (.fieldLink RX1 85 "VatHouse$Vat" "grains" "I") (by decide +kernel)) (fun _ h9 => h9) rfl (by decide +kernel) rfl rfl rfl ⟨_, rfl⟩ dX1_reachesBy_154 (fun f_136 H locs hP hD hS hT hE1 hrd_137 hup_138 => ?_)
            have hF := Fr.put (a := v) (ci := 7) hF hE ((hE1 v (hT.at 9 rfl).1).2.symm.trans (hT.at 9 rfl).2) (by decide) hrd_137 hup_138
            have hE := hE.tr hE1
            refine lv_aload_n hx hb dX1_reachesBy_157 rfl (lv_at hl 9 rfl) ?_
            refine lv_iload hx hb dX1_reachesBy_158 (lv_at hl 5 rfl) ?_
            refine T_put (ci := 7) (v := .int z_19) (ty := .int) (t := tI) (C := RX7) (T := TX7) (N := 8) hx hb hts inw_X1_reachesBy_7 tyX7 tyX7_ok nmX7 hown hK hP hD hS hT 9 rfl rfl 2 (by decide) (hts (.fieldLink RX1 88 "VatHouse$Vat" "food" "I") (by decide +kernel)) (fun _ h9 => h9) rfl (by decide +kernel) rfl rfl rfl ⟨_, rfl⟩ dX1_reachesBy_160 (fun f_139 H locs hP hD hS hT hE1 hrd_140 hup_141 => ?_)
            have hF := Fr.put (a := v) (ci := 7) hF hE ((hE1 v (hT.at 9 rfl).1).2.symm.trans (hT.at 9 rfl).2) (by decide) hrd_140 hup_141
            have hE := hE.tr hE1
            refine lv_aload_n hx hb dX1_reachesBy_163 rfl (lv_at hl 9 rfl) ?_
            refine lv_iload hx hb dX1_reachesBy_164 (lv_at hl 4 rfl) ?_
            refine T_put (ci := 7) (v := .int z_23) (ty := .int) (t := tI) (C := RX7) (T := TX7) (N := 8) hx hb hts inw_X1_reachesBy_7 tyX7 tyX7_ok nmX7 hown hK hP hD hS hT 9 rfl rfl 3 (by decide) (hts (.fieldLink RX1 91 "VatHouse$Vat" "minutes" "I") (by decide +kernel)) (fun _ h9 => h9) rfl (by decide +kernel) rfl rfl rfl ⟨_, rfl⟩ dX1_reachesBy_166 (fun f_142 H locs hP hD hS hT hE1 hrd_143 hup_144 => ?_)
            have hF := Fr.put (a := v) (ci := 7) hF hE ((hE1 v (hT.at 9 rfl).1).2.symm.trans (hT.at 9 rfl).2) (by decide) hrd_143 hup_144
            have hE := hE.tr hE1
            refine lv_aload_n hx hb dX1_reachesBy_169 rfl (lv_at hl 9 rfl) ?_
            refine lv_iload hx hb dX1_reachesBy_170 (lv_at hl 3 rfl) ?_
            refine T_put (ci := 7) (v := .int z_27) (ty := .int) (t := tI) (C := RX7) (T := TX7) (N := 8) hx hb hts inw_X1_reachesBy_7 tyX7 tyX7_ok nmX7 hown hK hP hD hS hT 9 rfl rfl 4 (by decide) (hts (.fieldLink RX1 94 "VatHouse$Vat" "state" "I") (by decide +kernel)) (fun _ h9 => h9) rfl (by decide +kernel) rfl rfl rfl ⟨_, rfl⟩ dX1_reachesBy_172 (fun f_145 H locs hP hD hS hT hE1 hrd_146 hup_147 => ?_)
            have hF := Fr.put (a := v) (ci := 7) hF hE ((hE1 v (hT.at 9 rfl).1).2.symm.trans (hT.at 9 rfl).2) (by decide) hrd_146 hup_147
            have hE := hE.tr hE1
            refine lv_aload_n hx hb dX1_reachesBy_175 rfl (lv_at hl 8 rfl) ?_
            refine T_get (ci := 1) (C := RX1) (T := TX1) (N := 9) (t := (1, 0, 0, 0)) hx hb hts inw_X1_reachesBy_1 hown hK hP hT 8 rfl rfl 2 (by decide) (hts (.fieldLink RX1 22 "VatHouse$Planner" "trialCloth" "LVatHouse$Cloth;") (by decide +kernel)) (fun _ h9 => h9) rfl dX1_reachesBy_176 (fun v_150 hv_148 hr_149 => ?_)
            obtain ⟨b_151, rfl, hb9⟩ := hv_148
            have hT := hT.add hb9
            refine lv_iload hx hb dX1_reachesBy_179 (lv_at hl 2 rfl) ?_
            refine T_put (ci := 0) (v := .int z_35) (ty := .int) (t := tI) (C := RX0) (T := TX0) (N := 8) hx hb hts inw_X1_reachesBy_0 tyX0 tyX0_ok nmX0 hown hK hP hD hS hT 0 rfl rfl 2 (by decide) (hts (.fieldLink RX1 70 "VatHouse$Cloth" "loose" "I") (by decide +kernel)) (fun _ h9 => h9) rfl (by decide +kernel) rfl rfl rfl ⟨_, rfl⟩ dX1_reachesBy_181 (fun f_152 H locs hP hD hS hT hE1 hrd_153 hup_154 => ?_)
            have hF := Fr.put (a := b_151) (ci := 0) hF hE ((hE1 b_151 (hT.at 0 rfl).1).2.symm.trans (hT.at 0 rfl).2) (by decide) hrd_153 hup_154
            have hE := hE.tr hE1
            refine lv_aload_n hx hb dX1_reachesBy_184 rfl (lv_at hl 8 rfl) ?_
            refine T_get (ci := 1) (C := RX1) (T := TX1) (N := 9) (t := (1, 0, 0, 0)) hx hb hts inw_X1_reachesBy_1 hown hK hP hT 9 rfl rfl 2 (by decide) (hts (.fieldLink RX1 22 "VatHouse$Planner" "trialCloth" "LVatHouse$Cloth;") (by decide +kernel)) (fun _ h9 => h9) rfl dX1_reachesBy_185 (fun v_157 hv_155 hr_156 => ?_)
            obtain ⟨b_158, rfl, hb9⟩ := hv_155
            have hT := hT.add hb9
            refine lv_iload hx hb dX1_reachesBy_188 (lv_at hl 1 rfl) ?_
            refine T_put (ci := 0) (v := .int z_42) (ty := .int) (t := tI) (C := RX0) (T := TX0) (N := 8) hx hb hts inw_X1_reachesBy_0 tyX0 tyX0_ok nmX0 hown hK hP hD hS hT 0 rfl rfl 3 (by decide) (hts (.fieldLink RX1 97 "VatHouse$Cloth" "fast" "I") (by decide +kernel)) (fun _ h9 => h9) rfl (by decide +kernel) rfl rfl rfl ⟨_, rfl⟩ dX1_reachesBy_190 (fun f_159 H locs hP hD hS hT hE1 hrd_160 hup_161 => ?_)
            have hF := Fr.put (a := b_158) (ci := 0) hF hE ((hE1 b_158 (hT.at 0 rfl).1).2.symm.trans (hT.at 0 rfl).2) (by decide) hrd_160 hup_161
            have hE := hE.tr hE1
            refine lv_iload hx hb dX1_reachesBy_193 (lv_at hl 0 rfl) ?_
            exact K_z hx hb hr rfl hlocks hP hD hK hS hT hE ⟨⟨_, rfl, Or.inl rfl⟩, hF⟩ (by first | exact Nat.le_of_ble_eq_true rfl | (simp only [rm_X1_reachesBy]; omega) | omega) (by first | exact Nat.le_of_ble_eq_true rfl | (simp only [rm_X1_reachesBy]; omega) | omega) dX1_reachesBy_195
          · refine lv_iconst (v := 1) hx hb dX1_reachesBy_144 (by decide) ?_
            refine lv_goto (tgt := 149) hx hb dX1_reachesBy_145 (by decide) ?_
            refine lv_istore (lv' := [(12, .int 1), (11, .int z_42), (10, .int z_35), (9, .int z_27), (8, .int z_23), (7, .int z_19), (6, .int z_15), (5, .int z_8), (0, .ref h0), (1, .ref v), (2, .int mm), (3, .int pl), (4, .int wa)]) hx hb dX1_reachesBy_149 hl (by decide) rfl (fun ls hl => ?_)
            refine lv_aload_n hx hb dX1_reachesBy_151 rfl (lv_at hl 9 rfl) ?_
            refine lv_iload hx hb dX1_reachesBy_152 (lv_at hl 6 rfl) ?_
            refine T_put (ci := 7) (v := .int z_15) (ty := .int) (t := tI) (C := RX7) (T := TX7) (N := 8) hx hb hts inw_X1_reachesBy_7 tyX7 tyX7_ok nmX7 hown hK hP hD hS hT 9 rfl rfl 1 (by decide) (hts (.fieldLink RX1 85 "VatHouse$Vat" "grains" "I") (by decide +kernel)) (fun _ h9 => h9) rfl (by decide +kernel) rfl rfl rfl ⟨_, rfl⟩ dX1_reachesBy_154 (fun f_162 H locs hP hD hS hT hE1 hrd_163 hup_164 => ?_)
            have hF := Fr.put (a := v) (ci := 7) hF hE ((hE1 v (hT.at 9 rfl).1).2.symm.trans (hT.at 9 rfl).2) (by decide) hrd_163 hup_164
            have hE := hE.tr hE1
            refine lv_aload_n hx hb dX1_reachesBy_157 rfl (lv_at hl 9 rfl) ?_
            refine lv_iload hx hb dX1_reachesBy_158 (lv_at hl 5 rfl) ?_
            refine T_put (ci := 7) (v := .int z_19) (ty := .int) (t := tI) (C := RX7) (T := TX7) (N := 8) hx hb hts inw_X1_reachesBy_7 tyX7 tyX7_ok nmX7 hown hK hP hD hS hT 9 rfl rfl 2 (by decide) (hts (.fieldLink RX1 88 "VatHouse$Vat" "food" "I") (by decide +kernel)) (fun _ h9 => h9) rfl (by decide +kernel) rfl rfl rfl ⟨_, rfl⟩ dX1_reachesBy_160 (fun f_165 H locs hP hD hS hT hE1 hrd_166 hup_167 => ?_)
            have hF := Fr.put (a := v) (ci := 7) hF hE ((hE1 v (hT.at 9 rfl).1).2.symm.trans (hT.at 9 rfl).2) (by decide) hrd_166 hup_167
            have hE := hE.tr hE1
            refine lv_aload_n hx hb dX1_reachesBy_163 rfl (lv_at hl 9 rfl) ?_
            refine lv_iload hx hb dX1_reachesBy_164 (lv_at hl 4 rfl) ?_
            refine T_put (ci := 7) (v := .int z_23) (ty := .int) (t := tI) (C := RX7) (T := TX7) (N := 8) hx hb hts inw_X1_reachesBy_7 tyX7 tyX7_ok nmX7 hown hK hP hD hS hT 9 rfl rfl 3 (by decide) (hts (.fieldLink RX1 91 "VatHouse$Vat" "minutes" "I") (by decide +kernel)) (fun _ h9 => h9) rfl (by decide +kernel) rfl rfl rfl ⟨_, rfl⟩ dX1_reachesBy_166 (fun f_168 H locs hP hD hS hT hE1 hrd_169 hup_170 => ?_)
            have hF := Fr.put (a := v) (ci := 7) hF hE ((hE1 v (hT.at 9 rfl).1).2.symm.trans (hT.at 9 rfl).2) (by decide) hrd_169 hup_170
            have hE := hE.tr hE1
            refine lv_aload_n hx hb dX1_reachesBy_169 rfl (lv_at hl 9 rfl) ?_
            refine lv_iload hx hb dX1_reachesBy_170 (lv_at hl 3 rfl) ?_
            refine T_put (ci := 7) (v := .int z_27) (ty := .int) (t := tI) (C := RX7) (T := TX7) (N := 8) hx hb hts inw_X1_reachesBy_7 tyX7 tyX7_ok nmX7 hown hK hP hD hS hT 9 rfl rfl 4 (by decide) (hts (.fieldLink RX1 94 "VatHouse$Vat" "state" "I") (by decide +kernel)) (fun _ h9 => h9) rfl (by decide +kernel) rfl rfl rfl ⟨_, rfl⟩ dX1_reachesBy_172 (fun f_171 H locs hP hD hS hT hE1 hrd_172 hup_173 => ?_)
            have hF := Fr.put (a := v) (ci := 7) hF hE ((hE1 v (hT.at 9 rfl).1).2.symm.trans (hT.at 9 rfl).2) (by decide) hrd_172 hup_173
            have hE := hE.tr hE1
            refine lv_aload_n hx hb dX1_reachesBy_175 rfl (lv_at hl 8 rfl) ?_
            refine T_get (ci := 1) (C := RX1) (T := TX1) (N := 9) (t := (1, 0, 0, 0)) hx hb hts inw_X1_reachesBy_1 hown hK hP hT 8 rfl rfl 2 (by decide) (hts (.fieldLink RX1 22 "VatHouse$Planner" "trialCloth" "LVatHouse$Cloth;") (by decide +kernel)) (fun _ h9 => h9) rfl dX1_reachesBy_176 (fun v_176 hv_174 hr_175 => ?_)
            obtain ⟨b_177, rfl, hb9⟩ := hv_174
            have hT := hT.add hb9
            refine lv_iload hx hb dX1_reachesBy_179 (lv_at hl 2 rfl) ?_
            refine T_put (ci := 0) (v := .int z_35) (ty := .int) (t := tI) (C := RX0) (T := TX0) (N := 8) hx hb hts inw_X1_reachesBy_0 tyX0 tyX0_ok nmX0 hown hK hP hD hS hT 0 rfl rfl 2 (by decide) (hts (.fieldLink RX1 70 "VatHouse$Cloth" "loose" "I") (by decide +kernel)) (fun _ h9 => h9) rfl (by decide +kernel) rfl rfl rfl ⟨_, rfl⟩ dX1_reachesBy_181 (fun f_178 H locs hP hD hS hT hE1 hrd_179 hup_180 => ?_)
            have hF := Fr.put (a := b_177) (ci := 0) hF hE ((hE1 b_177 (hT.at 0 rfl).1).2.symm.trans (hT.at 0 rfl).2) (by decide) hrd_179 hup_180
            have hE := hE.tr hE1
            refine lv_aload_n hx hb dX1_reachesBy_184 rfl (lv_at hl 8 rfl) ?_
            refine T_get (ci := 1) (C := RX1) (T := TX1) (N := 9) (t := (1, 0, 0, 0)) hx hb hts inw_X1_reachesBy_1 hown hK hP hT 9 rfl rfl 2 (by decide) (hts (.fieldLink RX1 22 "VatHouse$Planner" "trialCloth" "LVatHouse$Cloth;") (by decide +kernel)) (fun _ h9 => h9) rfl dX1_reachesBy_185 (fun v_183 hv_181 hr_182 => ?_)
            obtain ⟨b_184, rfl, hb9⟩ := hv_181
            have hT := hT.add hb9
            refine lv_iload hx hb dX1_reachesBy_188 (lv_at hl 1 rfl) ?_
            refine T_put (ci := 0) (v := .int z_42) (ty := .int) (t := tI) (C := RX0) (T := TX0) (N := 8) hx hb hts inw_X1_reachesBy_0 tyX0 tyX0_ok nmX0 hown hK hP hD hS hT 0 rfl rfl 3 (by decide) (hts (.fieldLink RX1 97 "VatHouse$Cloth" "fast" "I") (by decide +kernel)) (fun _ h9 => h9) rfl (by decide +kernel) rfl rfl rfl ⟨_, rfl⟩ dX1_reachesBy_190 (fun f_185 H locs hP hD hS hT hE1 hrd_186 hup_187 => ?_)
            have hF := Fr.put (a := b_184) (ci := 0) hF hE ((hE1 b_184 (hT.at 0 rfl).1).2.symm.trans (hT.at 0 rfl).2) (by decide) hrd_186 hup_187
            have hE := hE.tr hE1
            refine lv_iload hx hb dX1_reachesBy_193 (lv_at hl 0 rfl) ?_
            exact K_z hx hb hr rfl hlocks hP hD hK hS hT hE ⟨⟨_, rfl, Or.inr rfl⟩, hF⟩ (by first | exact Nat.le_of_ble_eq_true rfl | (simp only [rm_X1_reachesBy]; omega) | omega) (by first | exact Nat.le_of_ble_eq_true rfl | (simp only [rm_X1_reachesBy]; omega) | omega) dX1_reachesBy_195
      · refine lv_iconst (v := 0) hx hb dX1_reachesBy_26 (by decide) ?_
        exact K_z hx hb hr rfl hlocks hP hD hK hS hT hE ⟨⟨_, rfl, Or.inl rfl⟩, hF⟩ (by first | exact Nat.le_of_ble_eq_true rfl | (simp only [rm_X1_reachesBy]; omega) | omega) (by first | exact Nat.le_of_ble_eq_true rfl | (simp only [rm_X1_reachesBy]; omega) | omega) dX1_reachesBy_27

theorem inw_X1_reaches_0 : ∀ w ∈ wsX00, w ∈ wsX1_reaches := by decide +kernel
theorem inw_X1_reaches_1 : ∀ w ∈ wsX10, w ∈ wsX1_reaches := by decide +kernel
set_option maxHeartbeats 800000 in
set_option maxRecDepth 100000 in
theorem t_X1_reaches (l : Launch) (dC : Nat → ClassId) (dI : Nat → Nat → Nat) (sa : Nat → Nat) (hlt : l.stackTraces = false) (g : Nat → Nat) (L : List Nat) (f : Nat → va_E) (j : Nat) (d : Nat) (h0 : Nat) (pl : Int32) (wa : Int32) (sz : Nat) (hT : TP g L f [(h0, (0, 1, 0))]) (hd : pl = nI d) (hdj : d + j = 3) (IHY : ∀ (L : List Nat) (f : Nat → va_E) (h0 : Nat) (v : Nat) (mm : Int32) (pl : Int32) (wa : Int32) (sz : Nat) (hT : TP g L f [(h0, (0, 1, 0)), (v, (0, 7, 0))]) (hd : pl = nI d), KC l dC dI sa g yX1_reachesBy wsX1_reachesBy (rm_X1_reachesBy j d) [.ref h0, .ref v, .int mm, .int pl, .int wa] L f sz (fun r L' f' => (∃ z : Int32, r = some (.int z) ∧ (z = 0 ∨ z = 1)) ∧ Fr [(0, 0), (0, 1), (0, 2), (0, 3), (0, 4), (0, 5), (0, 6), (0, 7), (7, 0), (7, 1), (7, 2), (7, 3), (7, 4), (7, 5), (7, 6), (7, 7), (100, 3)] L f f') 0 0) : KC l dC dI sa g yX1_reaches wsX1_reaches (rm_X1_reaches j d) [.ref h0, .int pl, .int wa] L f sz (fun r L' f' => (∃ z : Int32, r = some (.int z) ∧ (z = 0 ∨ z = 1)) ∧ Fr [(0, 0), (0, 1), (0, 2), (0, 3), (0, 4), (0, 5), (0, 6), (0, 7), (7, 0), (7, 1), (7, 2), (7, 3), (7, 4), (7, 5), (7, 6), (7, 7), (100, 3)] L f f') 0 0 := by
  refine CT.start (cc := cX1_reaches) (maxL := 5) (ret := (some .boolean)) (by decide) rfl (Nat.le_of_ble_eq_true rfl) ?_
  intro p e s m below meth c ls hst hP hK hD hev hS hl
  obtain ⟨hx, hb, hr, hml, hts, hown, hlocks, hin⟩ := hst
  have hown : s.vm.findClass RX1 = some m.cls := hown
  have hin : meth.name = yX1_reaches.name := hin
  have hA : ∀ q : Nat, s.heap.size ≤ q → va_A (va_pl L f) s.heap.size q := fun _ h => Or.inr h
  have hE : Ext L f L f := Ext.rf
  have hF : Fr [(0, 0), (0, 1), (0, 2), (0, 3), (0, 4), (0, 5), (0, 6), (0, 7), (7, 0), (7, 1), (7, 2), (7, 3), (7, 4), (7, 5), (7, 6), (7, 7), (100, 3)] L f f := Fr.rf
  have hl : lv_has ls 5 [(0, .ref h0), (1, .int pl), (2, .int wa)] := hl
  refine lv_iload_n hx hb dX1_reaches_0 rfl (lv_at hl 1 rfl) ?_
  refine lv_iload_n hx hb dX1_reaches_1 rfl (lv_at hl 2 rfl) ?_
  refine lv_icmp_ge (tgt := 10) hx hb dX1_reaches_2 (by decide) (fun c_1 => ?_) (fun c_1 => ?_)
  · refine lv_aload_n hx hb dX1_reaches_10 rfl (lv_at hl 0 rfl) ?_
    refine T_get (ci := 1) (C := RX1) (T := TX1) (N := 9) (t := (1, 0, 0, 0)) hx hb hts inw_X1_reaches_1 hown hK hP hT 0 rfl rfl 2 (by decide) (hts (.fieldLink RX1 22 "VatHouse$Planner" "trialCloth" "LVatHouse$Cloth;") (by decide +kernel)) (fun _ h9 => h9) rfl dX1_reaches_11 (fun v_4 hv_2 hr_3 => ?_)
    obtain ⟨b_5, rfl, hb9⟩ := hv_2
    have hT := hT.add hb9
    refine T_get (ci := 0) (C := RX0) (T := TX0) (N := 8) (t := tI) hx hb hts inw_X1_reaches_0 hown hK hP hT 0 rfl rfl 2 (by decide) (hts (.fieldLink RX1 70 "VatHouse$Cloth" "loose" "I") (by decide +kernel)) (fun _ h9 => h9) rfl dX1_reaches_14 (fun v_8 hv_6 hr_7 => ?_)
    obtain ⟨z_9, rfl⟩ := hv_6
    refine lv_if_ne (tgt := 52) hx hb dX1_reaches_17 (by decide) (fun c_10 => ?_) (fun c_10 => ?_)
    · refine lv_iconst (v := 0) hx hb dX1_reaches_52 (by decide) ?_
      exact K_z hx hb hr rfl hlocks hP hD hK hS hT hE ⟨⟨_, rfl, Or.inl rfl⟩, hF⟩ (by first | exact Nat.le_of_ble_eq_true rfl | (simp only [rm_X1_reaches]; omega) | omega) (by first | exact Nat.le_of_ble_eq_true rfl | (simp only [rm_X1_reaches]; omega) | omega) dX1_reaches_53
    · refine lv_aload_n hx hb dX1_reaches_20 rfl (lv_at hl 0 rfl) ?_
      refine T_get (ci := 1) (C := RX1) (T := TX1) (N := 9) (t := (1, 0, 0, 0)) hx hb hts inw_X1_reaches_1 hown hK hP hT 1 rfl rfl 2 (by decide) (hts (.fieldLink RX1 22 "VatHouse$Planner" "trialCloth" "LVatHouse$Cloth;") (by decide +kernel)) (fun _ h9 => h9) rfl dX1_reaches_21 (fun v_13 hv_11 hr_12 => ?_)
      obtain rfl : v_13 = .ref b_5 := hr_12.symm.trans hr_3
      refine K_V ⟨hx, hb, hml, hown, hts⟩ (t_X0_shade l dC dI sa hlt g _ _ b_5 _ (hT.sub [0] rfl)  ) (cwV 0 hts gX1_reaches_X0_shade rfl rfl rfl (by decide +kernel) ⟨(by first | exact Nat.le_of_ble_eq_true rfl | (simp only [rm_X0_shade, rm_X1_reaches]; omega)), (by first | exact Nat.le_of_ble_eq_true rfl | (simp only [rm_X0_shade, rm_X1_reaches]; omega))⟩) hP hD hK hS hA hev hT 0 0 rfl rfl rfl rfl hl.1 rfl (Nat.le_of_ble_eq_true rfl) dX1_reaches_24 ⟨(by first | exact Nat.le_of_ble_eq_true rfl | (simp only [rm_X1_reaches]; omega) | omega), (by first | exact Nat.le_of_ble_eq_true rfl | (simp only [rm_X1_reaches]; omega) | omega)⟩ (fun r L_14 f_15 H locs hw_16 hP hD hS hT hE1 => ?_)
      have hF := Fr.call hF hE hw_16.2 (by decide)
      have hE := hE.tr hE1
      obtain ⟨⟨z_17, rfl⟩, hw_16⟩ := hw_16
      refine W.eq (g2 := F0 m 27 ls [.int z_17]) rfl ?_
      refine lv_aload_n hx hb dX1_reaches_27 rfl (lv_at hl 0 rfl) ?_
      refine T_get (ci := 1) (C := RX1) (T := TX1) (N := 9) (t := tI) hx hb hts inw_X1_reaches_1 hown hK hP hT 1 rfl rfl 3 (by decide) (hts (.fieldLink RX1 43 "VatHouse$Planner" "low" "I") (by decide +kernel)) (fun _ h9 => h9) rfl dX1_reaches_28 (fun v_20 hv_18 hr_19 => ?_)
      obtain ⟨z_21, rfl⟩ := hv_18
      refine lv_icmp_lt (tgt := 52) hx hb dX1_reaches_31 (by decide) (fun c_22 => ?_) (fun c_22 => ?_)
      · refine lv_iconst (v := 0) hx hb dX1_reaches_52 (by decide) ?_
        exact K_z hx hb hr rfl hlocks hP hD hK hS hT hE ⟨⟨_, rfl, Or.inl rfl⟩, hF⟩ (by first | exact Nat.le_of_ble_eq_true rfl | (simp only [rm_X1_reaches]; omega) | omega) (by first | exact Nat.le_of_ble_eq_true rfl | (simp only [rm_X1_reaches]; omega) | omega) dX1_reaches_53
      · refine lv_aload_n hx hb dX1_reaches_34 rfl (lv_at hl 0 rfl) ?_
        refine T_get (ci := 1) (C := RX1) (T := TX1) (N := 9) (t := (1, 0, 0, 0)) hx hb hts inw_X1_reaches_1 hown hK hP hT 1 rfl rfl 2 (by decide) (hts (.fieldLink RX1 22 "VatHouse$Planner" "trialCloth" "LVatHouse$Cloth;") (by decide +kernel)) (fun _ h9 => h9) rfl dX1_reaches_35 (fun v_25 hv_23 hr_24 => ?_)
        obtain ⟨b_26, rfl, hb9⟩ := hv_23
        have hT := hT.add hb9
        refine K_V ⟨hx, hb, hml, hown, hts⟩ (t_X0_shade l dC dI sa hlt g _ _ b_26 _ (hT.sub [0] rfl)  ) (cwV 0 hts gX1_reaches_X0_shade rfl rfl rfl (by decide +kernel) ⟨(by first | exact Nat.le_of_ble_eq_true rfl | (simp only [rm_X0_shade, rm_X1_reaches]; omega)), (by first | exact Nat.le_of_ble_eq_true rfl | (simp only [rm_X0_shade, rm_X1_reaches]; omega))⟩) hP hD hK hS hA hev hT 0 0 rfl rfl rfl rfl hl.1 rfl (Nat.le_of_ble_eq_true rfl) dX1_reaches_38 ⟨(by first | exact Nat.le_of_ble_eq_true rfl | (simp only [rm_X1_reaches]; omega) | omega), (by first | exact Nat.le_of_ble_eq_true rfl | (simp only [rm_X1_reaches]; omega) | omega)⟩ (fun r L_27 f_28 H locs hw_29 hP hD hS hT hE1 => ?_)
        have hF := Fr.call hF hE hw_29.2 (by decide)
        have hE := hE.tr hE1
        obtain ⟨⟨z_30, rfl⟩, hw_29⟩ := hw_29
        refine W.eq (g2 := F0 m 41 ls [.int z_30]) rfl ?_
        refine lv_aload_n hx hb dX1_reaches_41 rfl (lv_at hl 0 rfl) ?_
        refine T_get (ci := 1) (C := RX1) (T := TX1) (N := 9) (t := tI) hx hb hts inw_X1_reaches_1 hown hK hP hT 2 rfl rfl 4 (by decide) (hts (.fieldLink RX1 47 "VatHouse$Planner" "high" "I") (by decide +kernel)) (fun _ h9 => h9) rfl dX1_reaches_42 (fun v_33 hv_31 hr_32 => ?_)
        obtain ⟨z_34, rfl⟩ := hv_31
        refine lv_icmp_gt (tgt := 52) hx hb dX1_reaches_45 (by decide) (fun c_35 => ?_) (fun c_35 => ?_)
        · refine lv_iconst (v := 0) hx hb dX1_reaches_52 (by decide) ?_
          exact K_z hx hb hr rfl hlocks hP hD hK hS hT hE ⟨⟨_, rfl, Or.inl rfl⟩, hF⟩ (by first | exact Nat.le_of_ble_eq_true rfl | (simp only [rm_X1_reaches]; omega) | omega) (by first | exact Nat.le_of_ble_eq_true rfl | (simp only [rm_X1_reaches]; omega) | omega) dX1_reaches_53
        · refine lv_iconst (v := 1) hx hb dX1_reaches_48 (by decide) ?_
          refine lv_goto (tgt := 53) hx hb dX1_reaches_49 (by decide) ?_
          exact K_z hx hb hr rfl hlocks hP hD hK hS hT hE ⟨⟨_, rfl, Or.inr rfl⟩, hF⟩ (by first | exact Nat.le_of_ble_eq_true rfl | (simp only [rm_X1_reaches]; omega) | omega) (by first | exact Nat.le_of_ble_eq_true rfl | (simp only [rm_X1_reaches]; omega) | omega) dX1_reaches_53
  · refine lv_iload_n hx hb dX1_reaches_5 rfl (lv_at hl 1 rfl) ?_
    refine lv_iconst (v := 3) hx hb dX1_reaches_6 (by decide) ?_
    refine lv_icmp_lt (tgt := 54) hx hb dX1_reaches_7 (by decide) (fun c_36 => ?_) (fun c_36 => ?_)
    · refine lv_iconst (v := 0) hx hb dX1_reaches_54 (by decide) ?_
      refine lv_istore_n (lv' := [(3, .int 0), (0, .ref h0), (1, .int pl), (2, .int wa)]) hx hb dX1_reaches_55 rfl hl (by decide) rfl (fun ls hl => ?_)
      have lpO : ∀ (nO : Nat) (ii : Int32) (L1 : List Nat) (f1 : Nat → va_E) (H : Heap) (locs : List Loc) (ls : Array Slot), (∃ a : Nat, ii = nI a ∧ a ≤ 6 ∧ 6 < a + nO) → va_P (dC, dI) vwCl (va_pl L1 f1) H → va_D (va_A (va_pl L f) s.heap.size) (va_pl L1 f1) → va_S (va_A (va_pl L f) s.heap.size) s.heap H locs → TP g L1 f1 [(h0, (0, 1, 0))] → Ext L f L1 f1 → Fr [(0, 0), (0, 1), (0, 2), (0, 3), (0, 4), (0, 5), (0, 6), (0, 7), (7, 0), (7, 1), (7, 2), (7, 3), (7, 4), (7, 5), (7, 6), (7, 7), (100, 3)] L f f1 → lv_has ls 5 [(3, .int ii), (0, .ref h0), (1, .int pl), (2, .int wa)] → W p l e (rm_X1_reaches j d) s m [.ref h0, .int pl, .int wa].toArray below meth c H locs 0 0 (MQ below (Qg (kpost g L f (fun r L' f' => (∃ z : Int32, r = some (.int z) ∧ (z = 0 ∨ z = 1)) ∧ Fr [(0, 0), (0, 1), (0, 2), (0, 3), (0, 4), (0, 5), (0, 6), (0, 7), (7, 0), (7, 1), (7, 2), (7, 3), (7, 4), (7, 5), (7, 6), (7, 7), (100, 3)] L f f')) (fun (u : PL) t => QW dC dI (va_A (va_pl L f) s.heap.size) (va_pl u.1 u.2) [] t) (va_A (va_pl L f) s.heap.size)) [.ref h0, .int pl, .int wa].toArray s (0) (0) (va_A (va_pl L f) s.heap.size)) (F0 m 56 ls []) := by
        intro nO
        induction nO with
        | zero => intro ii L1 f1 H locs ls hmO  hP hD hS hT hE hF hl; exact absurd hmO (by rintro ⟨a, -, h1, h2⟩; omega)
        | succ nO ihO =>
          intro ii L1 f1 H locs ls hmO  hP hD hS hT hE hF hl
          refine lv_iload_n hx hb dX1_reaches_56 rfl (lv_at hl 0 rfl) ?_
          refine lv_aload_n hx hb dX1_reaches_57 rfl (lv_at hl 1 rfl) ?_
          refine T_get (ci := 1) (C := RX1) (T := TX1) (N := 9) (t := (1, 2, g 10, 6)) hx hb hts inw_X1_reaches_1 hown hK hP hT 0 rfl rfl 1 (by decide) (hts (.fieldLink RX1 11 "VatHouse$Planner" "trialVats" "[LVatHouse$Vat;") (by decide +kernel)) (fun _ h9 => h9) rfl dX1_reaches_58 (fun v_39 hv_37 hr_38 => ?_)
          obtain ⟨b_40, rfl, hb9⟩ := hv_37
          have hT := hT.add hb9
          refine T_alen hx hb hK hP hT 0 10 rfl rfl (v := 6) rfl dX1_reaches_61 ?_
          refine lv_icmp_ge (tgt := 109) hx hb dX1_reaches_62 (by decide) (fun c_41 => ?_) (fun c_41 => ?_)
          · refine lv_iconst (v := 0) hx hb dX1_reaches_109 (by decide) ?_
            exact K_z hx hb hr rfl hlocks hP hD hK hS hT hE ⟨⟨_, rfl, Or.inl rfl⟩, hF⟩ (by first | exact Nat.le_of_ble_eq_true rfl | (simp only [rm_X1_reaches]; omega) | omega) (by first | exact Nat.le_of_ble_eq_true rfl | (simp only [rm_X1_reaches]; omega) | omega) dX1_reaches_110
          · refine lv_iconst (v := 1) hx hb dX1_reaches_65 (by decide) ?_
            refine lv_istore (lv' := [(4, .int 1), (3, .int ii), (0, .ref h0), (1, .int pl), (2, .int wa)]) hx hb dX1_reaches_66 hl (by decide) rfl (fun ls hl => ?_)
            have lp : ∀ (n : Nat) (mx : Int32) (L1 : List Nat) (f1 : Nat → va_E) (H : Heap) (locs : List Loc) (ls : Array Slot), (Dbl mx n) → va_P (dC, dI) vwCl (va_pl L1 f1) H → va_D (va_A (va_pl L f) s.heap.size) (va_pl L1 f1) → va_S (va_A (va_pl L f) s.heap.size) s.heap H locs → TP g L1 f1 [(h0, (0, 1, 0))] → Ext L f L1 f1 → Fr [(0, 0), (0, 1), (0, 2), (0, 3), (0, 4), (0, 5), (0, 6), (0, 7), (7, 0), (7, 1), (7, 2), (7, 3), (7, 4), (7, 5), (7, 6), (7, 7), (100, 3)] L f f1 → lv_has ls 5 [(4, .int mx), (3, .int ii), (0, .ref h0), (1, .int pl), (2, .int wa)] → W p l e (rm_X1_reaches j d) s m [.ref h0, .int pl, .int wa].toArray below meth c H locs 0 0 (MQ below (Qg (kpost g L f (fun r L' f' => (∃ z : Int32, r = some (.int z) ∧ (z = 0 ∨ z = 1)) ∧ Fr [(0, 0), (0, 1), (0, 2), (0, 3), (0, 4), (0, 5), (0, 6), (0, 7), (7, 0), (7, 1), (7, 2), (7, 3), (7, 4), (7, 5), (7, 6), (7, 7), (100, 3)] L f f')) (fun (u : PL) t => QW dC dI (va_A (va_pl L f) s.heap.size) (va_pl u.1 u.2) [] t) (va_A (va_pl L f) s.heap.size)) [.ref h0, .int pl, .int wa].toArray s (0) (0) (va_A (va_pl L f) s.heap.size)) (F0 m 68 ls []) := by
              intro n
              induction n with
              | zero => intro mx L1 f1 H locs ls hm  hP hD hS hT hE hF hl; exact hm.z.elim
              | succ n ih =>
                intro mx L1 f1 H locs ls hm  hP hD hS hT hE hF hl
                refine lv_iload hx hb dX1_reaches_68 (lv_at hl 0 rfl) ?_
                refine lv_bipush (v := 8) hx hb dX1_reaches_70 (by decide) ?_
                refine lv_icmp_gt (tgt := 103) hx hb dX1_reaches_72 (by decide) (fun c_42 => ?_) (fun c_42 => ?_)
                · refine lv_iinc (v := (ii + 1)) (lv' := [(3, .int (ii + 1)), (4, .int mx), (0, .ref h0), (1, .int pl), (2, .int wa)]) hx hb dX1_reaches_103 hl (k := 1) rfl rfl (by decide) rfl (fun ls hl => ?_)
                  refine lv_goto (tgt := 56) hx hb dX1_reaches_106 (by decide) ?_
                  exact ihO (ii + 1) _ _ _ _ _ (up_nx (by decide) hmO (by decide) c_41)  hP hD hS (hT.sub [0] rfl) hE hF (lv_sub hl [0, 2, 3, 4] rfl)
                · refine lv_aload_n hx hb dX1_reaches_75 rfl (lv_at hl 2 rfl) ?_
                  refine lv_aload_n hx hb dX1_reaches_76 rfl (lv_at hl 2 rfl) ?_
                  refine T_get (ci := 1) (C := RX1) (T := TX1) (N := 9) (t := (1, 2, g 10, 6)) hx hb hts inw_X1_reaches_1 hown hK hP hT 0 rfl rfl 1 (by decide) (hts (.fieldLink RX1 11 "VatHouse$Planner" "trialVats" "[LVatHouse$Vat;") (by decide +kernel)) (fun _ h9 => h9) rfl dX1_reaches_77 (fun v_45 hv_43 hr_44 => ?_)
                  obtain ⟨b_46, rfl, hb9⟩ := hv_43
                  have hT := hT.add hb9
                  refine lv_iload_n hx hb dX1_reaches_80 rfl (lv_at hl 1 rfl) ?_
                  refine T_vald hx hb hK hP hT 0 10 (Or.inr rfl) rfl rfl (up_in (by decide) hmO (by decide) c_41 (by decide) (by decide)) dX1_reaches_81 (fun b_47 hb9 hra => ?_)
                  have hT := hT.add hb9
                  refine lv_iload hx hb dX1_reaches_82 (lv_at hl 0 rfl) ?_
                  refine lv_iload_n hx hb dX1_reaches_84 rfl (lv_at hl 3 rfl) ?_
                  refine lv_iload_n hx hb dX1_reaches_85 rfl (lv_at hl 4 rfl) ?_
                  refine K_V ⟨hx, hb, hml, hown, hts⟩ (IHY _ _ h0 b_47 mx pl wa _ (hT.sub [2, 0] rfl)  hd) (cwV 4 hts gX1_reaches_X1_reachesBy rfl rfl rfl (by decide +kernel) ⟨(by first | exact Nat.le_of_ble_eq_true rfl | (simp only [rm_X1_reachesBy, rm_X1_reaches]; omega)), (by first | exact Nat.le_of_ble_eq_true rfl | (simp only [rm_X1_reachesBy, rm_X1_reaches]; omega))⟩) hP hD hK hS hA hev hT 2 1 rfl rfl rfl rfl hl.1 rfl (Nat.le_of_ble_eq_true rfl) dX1_reaches_86 ⟨(by first | exact Nat.le_of_ble_eq_true rfl | (simp only [rm_X1_reaches]; omega) | omega), (by first | exact Nat.le_of_ble_eq_true rfl | (simp only [rm_X1_reaches]; omega) | omega)⟩ (fun r L_48 f_49 H locs hw_50 hP hD hS hT hE1 => ?_)
                  have hF := Fr.call hF hE hw_50.2 (by decide)
                  have hE := hE.tr hE1
                  obtain ⟨⟨z_51, rfl, hz_z_51⟩, hw_50⟩ := hw_50
                  refine W.eq (g2 := F0 m 89 ls [.int z_51]) rfl ?_
                  refine lv_if_eq (tgt := 94) hx hb dX1_reaches_89 (by decide) (fun c_52 => ?_) (fun c_52 => ?_)
                  · refine lv_iload hx hb dX1_reaches_94 (lv_at hl 0 rfl) ?_
                    refine lv_iconst (v := 2) hx hb dX1_reaches_96 (by decide) ?_
                    refine lv_imul hx hb dX1_reaches_97 ?_
                    refine lv_topi (fun z_53 ez_53 => ?_)
                    refine lv_istore (lv' := [(4, .int z_53), (3, .int ii), (0, .ref h0), (1, .int pl), (2, .int wa)]) hx hb dX1_reaches_98 hl (by decide) rfl (fun ls hl => ?_)
                    refine lv_goto (tgt := 68) hx hb dX1_reaches_100 (by decide) ?_
                    exact ih z_53 _ _ _ _ _ (hm.nx c_42 ez_53)  hP hD hS (hT.sub [2] rfl) hE hF (lv_sub hl [0, 1, 2, 3, 4] rfl)
                  · refine lv_iconst (v := 1) hx hb dX1_reaches_92 (by decide) ?_
                    exact K_z hx hb hr rfl hlocks hP hD hK hS hT hE ⟨⟨_, rfl, Or.inr rfl⟩, hF⟩ (by first | exact Nat.le_of_ble_eq_true rfl | (simp only [rm_X1_reaches]; omega) | omega) (by first | exact Nat.le_of_ble_eq_true rfl | (simp only [rm_X1_reaches]; omega) | omega) dX1_reaches_93
            exact lp 5 1 _ _ _ _ _ (Or.inl ⟨rfl, by omega⟩)  hP hD hS (hT.sub [1] rfl) hE hF (lv_sub hl [0, 1, 2, 3, 4] rfl)
      exact lpO 7 0 _ _ _ _ _ (⟨0, nI_0.symm, by omega, by omega⟩)  hP hD hS (hT.sub [0] rfl) hE hF (lv_sub hl [0, 1, 2, 3] rfl)
    · refine lv_aload_n hx hb dX1_reaches_10 rfl (lv_at hl 0 rfl) ?_
      refine T_get (ci := 1) (C := RX1) (T := TX1) (N := 9) (t := (1, 0, 0, 0)) hx hb hts inw_X1_reaches_1 hown hK hP hT 0 rfl rfl 2 (by decide) (hts (.fieldLink RX1 22 "VatHouse$Planner" "trialCloth" "LVatHouse$Cloth;") (by decide +kernel)) (fun _ h9 => h9) rfl dX1_reaches_11 (fun v_56 hv_54 hr_55 => ?_)
      obtain ⟨b_57, rfl, hb9⟩ := hv_54
      have hT := hT.add hb9
      refine T_get (ci := 0) (C := RX0) (T := TX0) (N := 8) (t := tI) hx hb hts inw_X1_reaches_0 hown hK hP hT 0 rfl rfl 2 (by decide) (hts (.fieldLink RX1 70 "VatHouse$Cloth" "loose" "I") (by decide +kernel)) (fun _ h9 => h9) rfl dX1_reaches_14 (fun v_60 hv_58 hr_59 => ?_)
      obtain ⟨z_61, rfl⟩ := hv_58
      refine lv_if_ne (tgt := 52) hx hb dX1_reaches_17 (by decide) (fun c_62 => ?_) (fun c_62 => ?_)
      · refine lv_iconst (v := 0) hx hb dX1_reaches_52 (by decide) ?_
        exact K_z hx hb hr rfl hlocks hP hD hK hS hT hE ⟨⟨_, rfl, Or.inl rfl⟩, hF⟩ (by first | exact Nat.le_of_ble_eq_true rfl | (simp only [rm_X1_reaches]; omega) | omega) (by first | exact Nat.le_of_ble_eq_true rfl | (simp only [rm_X1_reaches]; omega) | omega) dX1_reaches_53
      · refine lv_aload_n hx hb dX1_reaches_20 rfl (lv_at hl 0 rfl) ?_
        refine T_get (ci := 1) (C := RX1) (T := TX1) (N := 9) (t := (1, 0, 0, 0)) hx hb hts inw_X1_reaches_1 hown hK hP hT 1 rfl rfl 2 (by decide) (hts (.fieldLink RX1 22 "VatHouse$Planner" "trialCloth" "LVatHouse$Cloth;") (by decide +kernel)) (fun _ h9 => h9) rfl dX1_reaches_21 (fun v_65 hv_63 hr_64 => ?_)
        obtain rfl : v_65 = .ref b_57 := hr_64.symm.trans hr_55
        refine K_V ⟨hx, hb, hml, hown, hts⟩ (t_X0_shade l dC dI sa hlt g _ _ b_57 _ (hT.sub [0] rfl)  ) (cwV 0 hts gX1_reaches_X0_shade rfl rfl rfl (by decide +kernel) ⟨(by first | exact Nat.le_of_ble_eq_true rfl | (simp only [rm_X0_shade, rm_X1_reaches]; omega)), (by first | exact Nat.le_of_ble_eq_true rfl | (simp only [rm_X0_shade, rm_X1_reaches]; omega))⟩) hP hD hK hS hA hev hT 0 0 rfl rfl rfl rfl hl.1 rfl (Nat.le_of_ble_eq_true rfl) dX1_reaches_24 ⟨(by first | exact Nat.le_of_ble_eq_true rfl | (simp only [rm_X1_reaches]; omega) | omega), (by first | exact Nat.le_of_ble_eq_true rfl | (simp only [rm_X1_reaches]; omega) | omega)⟩ (fun r L_66 f_67 H locs hw_68 hP hD hS hT hE1 => ?_)
        have hF := Fr.call hF hE hw_68.2 (by decide)
        have hE := hE.tr hE1
        obtain ⟨⟨z_69, rfl⟩, hw_68⟩ := hw_68
        refine W.eq (g2 := F0 m 27 ls [.int z_69]) rfl ?_
        refine lv_aload_n hx hb dX1_reaches_27 rfl (lv_at hl 0 rfl) ?_
        refine T_get (ci := 1) (C := RX1) (T := TX1) (N := 9) (t := tI) hx hb hts inw_X1_reaches_1 hown hK hP hT 1 rfl rfl 3 (by decide) (hts (.fieldLink RX1 43 "VatHouse$Planner" "low" "I") (by decide +kernel)) (fun _ h9 => h9) rfl dX1_reaches_28 (fun v_72 hv_70 hr_71 => ?_)
        obtain ⟨z_73, rfl⟩ := hv_70
        refine lv_icmp_lt (tgt := 52) hx hb dX1_reaches_31 (by decide) (fun c_74 => ?_) (fun c_74 => ?_)
        · refine lv_iconst (v := 0) hx hb dX1_reaches_52 (by decide) ?_
          exact K_z hx hb hr rfl hlocks hP hD hK hS hT hE ⟨⟨_, rfl, Or.inl rfl⟩, hF⟩ (by first | exact Nat.le_of_ble_eq_true rfl | (simp only [rm_X1_reaches]; omega) | omega) (by first | exact Nat.le_of_ble_eq_true rfl | (simp only [rm_X1_reaches]; omega) | omega) dX1_reaches_53
        · refine lv_aload_n hx hb dX1_reaches_34 rfl (lv_at hl 0 rfl) ?_
          refine T_get (ci := 1) (C := RX1) (T := TX1) (N := 9) (t := (1, 0, 0, 0)) hx hb hts inw_X1_reaches_1 hown hK hP hT 1 rfl rfl 2 (by decide) (hts (.fieldLink RX1 22 "VatHouse$Planner" "trialCloth" "LVatHouse$Cloth;") (by decide +kernel)) (fun _ h9 => h9) rfl dX1_reaches_35 (fun v_77 hv_75 hr_76 => ?_)
          obtain ⟨b_78, rfl, hb9⟩ := hv_75
          have hT := hT.add hb9
          refine K_V ⟨hx, hb, hml, hown, hts⟩ (t_X0_shade l dC dI sa hlt g _ _ b_78 _ (hT.sub [0] rfl)  ) (cwV 0 hts gX1_reaches_X0_shade rfl rfl rfl (by decide +kernel) ⟨(by first | exact Nat.le_of_ble_eq_true rfl | (simp only [rm_X0_shade, rm_X1_reaches]; omega)), (by first | exact Nat.le_of_ble_eq_true rfl | (simp only [rm_X0_shade, rm_X1_reaches]; omega))⟩) hP hD hK hS hA hev hT 0 0 rfl rfl rfl rfl hl.1 rfl (Nat.le_of_ble_eq_true rfl) dX1_reaches_38 ⟨(by first | exact Nat.le_of_ble_eq_true rfl | (simp only [rm_X1_reaches]; omega) | omega), (by first | exact Nat.le_of_ble_eq_true rfl | (simp only [rm_X1_reaches]; omega) | omega)⟩ (fun r L_79 f_80 H locs hw_81 hP hD hS hT hE1 => ?_)
          have hF := Fr.call hF hE hw_81.2 (by decide)
          have hE := hE.tr hE1
          obtain ⟨⟨z_82, rfl⟩, hw_81⟩ := hw_81
          refine W.eq (g2 := F0 m 41 ls [.int z_82]) rfl ?_
          refine lv_aload_n hx hb dX1_reaches_41 rfl (lv_at hl 0 rfl) ?_
          refine T_get (ci := 1) (C := RX1) (T := TX1) (N := 9) (t := tI) hx hb hts inw_X1_reaches_1 hown hK hP hT 2 rfl rfl 4 (by decide) (hts (.fieldLink RX1 47 "VatHouse$Planner" "high" "I") (by decide +kernel)) (fun _ h9 => h9) rfl dX1_reaches_42 (fun v_85 hv_83 hr_84 => ?_)
          obtain ⟨z_86, rfl⟩ := hv_83
          refine lv_icmp_gt (tgt := 52) hx hb dX1_reaches_45 (by decide) (fun c_87 => ?_) (fun c_87 => ?_)
          · refine lv_iconst (v := 0) hx hb dX1_reaches_52 (by decide) ?_
            exact K_z hx hb hr rfl hlocks hP hD hK hS hT hE ⟨⟨_, rfl, Or.inl rfl⟩, hF⟩ (by first | exact Nat.le_of_ble_eq_true rfl | (simp only [rm_X1_reaches]; omega) | omega) (by first | exact Nat.le_of_ble_eq_true rfl | (simp only [rm_X1_reaches]; omega) | omega) dX1_reaches_53
          · refine lv_iconst (v := 1) hx hb dX1_reaches_48 (by decide) ?_
            refine lv_goto (tgt := 53) hx hb dX1_reaches_49 (by decide) ?_
            exact K_z hx hb hr rfl hlocks hP hD hK hS hT hE ⟨⟨_, rfl, Or.inr rfl⟩, hF⟩ (by first | exact Nat.le_of_ble_eq_true rfl | (simp only [rm_X1_reaches]; omega) | omega) (by first | exact Nat.le_of_ble_eq_true rfl | (simp only [rm_X1_reaches]; omega) | omega) dX1_reaches_53

theorem X1_reaches_all (l : Launch) (dC : Nat → ClassId) (dI : Nat → Nat → Nat) (sa : Nat → Nat) (hlt : l.stackTraces = false) (g : Nat → Nat) : ∀ (j d : Nat), d + j = 3 → ∀ (L : List Nat) (f : Nat → va_E) (h0 : Nat) (pl : Int32) (wa : Int32) (sz : Nat) (hT : TP g L f [(h0, (0, 1, 0))]) (hd : pl = nI d), KC l dC dI sa g yX1_reaches wsX1_reaches (rm_X1_reaches j d) [.ref h0, .int pl, .int wa] L f sz (fun r L' f' => (∃ z : Int32, r = some (.int z) ∧ (z = 0 ∨ z = 1)) ∧ Fr [(0, 0), (0, 1), (0, 2), (0, 3), (0, 4), (0, 5), (0, 6), (0, 7), (7, 0), (7, 1), (7, 2), (7, 3), (7, 4), (7, 5), (7, 6), (7, 7), (100, 3)] L f f') 0 0 := by
  intro j
  induction j with
  | zero => exact fun d hdj L f h0 pl wa sz hT hd => t_X1_reaches l dC dI sa hlt g L f 0 d h0 pl wa sz hT hd hdj (fun L f h0 v mm pl wa sz hT hd => t_X1_reachesBy l dC dI sa hlt g L f 0 d h0 v mm pl wa sz hT hd hdj (fun j' d' _ h => absurd h (by omega)))
  | succ j ih =>
    exact fun d hdj L f h0 pl wa sz hT hd => t_X1_reaches l dC dI sa hlt g L f (j + 1) d h0 pl wa sz hT hd hdj (fun L f h0 v mm pl wa sz hT hd => t_X1_reachesBy l dC dI sa hlt g L f (j + 1) d h0 v mm pl wa sz hT hd hdj (fun j' d' hdj' hj => by
      obtain rfl : j = j' := by omega
      exact ih d' hdj'))

abbrev rm_X1_fewest : Room := { frames := 27, cells := 1, slots := 6, locals := 624 }
theorem inw_X1_fewest_1 : ∀ w ∈ wsX10, w ∈ wsX1_fewest := by decide +kernel
set_option maxHeartbeats 800000 in
set_option maxRecDepth 100000 in
theorem t_X1_fewest (l : Launch) (dC : Nat → ClassId) (dI : Nat → Nat → Nat) (sa : Nat → Nat) (hlt : l.stackTraces = false) (g : Nat → Nat) (L : List Nat) (f : Nat → va_E) (h0 : Nat) (o : Nat) (lw : Int32) (hg : Int32) (mo : Int32) (sz : Nat) (hT : TP g L f [(h0, (0, 1, 0)), (o, (0, 0, 0))]) : KY l dC dI sa g yX1_fewest wsX1_fewest rm_X1_fewest [.ref h0, .ref o, .int lw, .int hg, .int mo] L f sz (fun r L' f' => (∃ z : Int32, r = some (.int z)) ∧ Fr [(0, 0), (0, 1), (0, 2), (0, 3), (0, 4), (0, 5), (0, 6), (0, 7), (7, 0), (7, 1), (7, 2), (7, 3), (7, 4), (7, 5), (7, 6), (7, 7), (1, 3), (1, 4), (1, 5), (100, 3)] L f f') (fun n _ => n = 0) (fun E L' f' => (E = NSE) ∧ Fr [(0, 0), (0, 1), (0, 2), (0, 3), (0, 4), (0, 5), (0, 6), (0, 7), (7, 0), (7, 1), (7, 2), (7, 3), (7, 4), (7, 5), (7, 6), (7, 7), (1, 3), (1, 4), (1, 5), (100, 3)] L f f') 1 6 := by
  refine KY.start (cc := cX1_fewest) (maxL := 6) (ret := (some .int)) (by decide) rfl (Nat.le_of_ble_eq_true rfl) ?_
  intro p e s m below meth c ls hst hno hP hK hD hev hS hl
  obtain ⟨hx, hb, hr, hml, hts, hown, hlocks, hin⟩ := hst
  have hown : s.vm.findClass RX1 = some m.cls := hown
  have hin : meth.name = yX1_fewest.name := hin
  have hA : ∀ q : Nat, s.heap.size ≤ q → va_A (va_pl L f) s.heap.size q := fun _ h => Or.inr h
  have hE : Ext L f L f := Ext.rf
  have hF : Fr [(0, 0), (0, 1), (0, 2), (0, 3), (0, 4), (0, 5), (0, 6), (0, 7), (7, 0), (7, 1), (7, 2), (7, 3), (7, 4), (7, 5), (7, 6), (7, 7), (1, 3), (1, 4), (1, 5), (100, 3)] L f f := Fr.rf
  have hl : lv_has ls 6 [(0, .ref h0), (1, .ref o), (2, .int lw), (3, .int hg), (4, .int mo)] := hl
  refine lv_aload_n hx hb dX1_fewest_0 rfl (lv_at hl 0 rfl) ?_
  refine lv_iload_n hx hb dX1_fewest_1 rfl (lv_at hl 2 rfl) ?_
  refine T_put (ci := 1) (v := .int lw) (ty := .int) (t := tI) (C := RX1) (T := TX1) (N := 9) hx hb hts inw_X1_fewest_1 tyX1 tyX1_ok nmX1 hown hK hP hD hS hT 0 rfl rfl 3 (by decide) (hts (.fieldLink RX1 43 "VatHouse$Planner" "low" "I") (by decide +kernel)) (fun _ h9 => h9) rfl (by decide +kernel) rfl rfl rfl ⟨_, rfl⟩ dX1_fewest_2 (fun f_1 H locs hP hD hS hT hE1 hrd_2 hup_3 => ?_)
  have hF := Fr.put (a := h0) (ci := 1) hF hE ((hE1 h0 (hT.at 0 rfl).1).2.symm.trans (hT.at 0 rfl).2) (by decide) hrd_2 hup_3
  have hE := hE.tr hE1
  refine lv_aload_n hx hb dX1_fewest_5 rfl (lv_at hl 0 rfl) ?_
  refine lv_iload_n hx hb dX1_fewest_6 rfl (lv_at hl 3 rfl) ?_
  refine T_put (ci := 1) (v := .int hg) (ty := .int) (t := tI) (C := RX1) (T := TX1) (N := 9) hx hb hts inw_X1_fewest_1 tyX1 tyX1_ok nmX1 hown hK hP hD hS hT 0 rfl rfl 4 (by decide) (hts (.fieldLink RX1 47 "VatHouse$Planner" "high" "I") (by decide +kernel)) (fun _ h9 => h9) rfl (by decide +kernel) rfl rfl rfl ⟨_, rfl⟩ dX1_fewest_7 (fun f_4 H locs hP hD hS hT hE1 hrd_5 hup_6 => ?_)
  have hF := Fr.put (a := h0) (ci := 1) hF hE ((hE1 h0 (hT.at 0 rfl).1).2.symm.trans (hT.at 0 rfl).2) (by decide) hrd_5 hup_6
  have hE := hE.tr hE1
  refine lv_iconst (v := 0) hx hb dX1_fewest_10 (by decide) ?_
  refine lv_istore (lv' := [(5, .int 0), (0, .ref h0), (1, .ref o), (2, .int lw), (3, .int hg), (4, .int mo)]) hx hb dX1_fewest_11 hl (by decide) rfl (fun ls hl => ?_)
  have lp : ∀ (n : Nat) (ii : Int32) (L1 : List Nat) (f1 : Nat → va_E) (H : Heap) (locs : List Loc) (ls : Array Slot), (∃ a : Nat, ii = nI a ∧ a ≤ 6 ∧ 6 < a + n) → va_P (dC, dI) vwCl (va_pl L1 f1) H → va_D (va_A (va_pl L f) s.heap.size) (va_pl L1 f1) → va_S (va_A (va_pl L f) s.heap.size) s.heap H locs → TP g L1 f1 [(h0, (0, 1, 0)), (o, (0, 0, 0))] → Ext L f L1 f1 → Fr [(0, 0), (0, 1), (0, 2), (0, 3), (0, 4), (0, 5), (0, 6), (0, 7), (7, 0), (7, 1), (7, 2), (7, 3), (7, 4), (7, 5), (7, 6), (7, 7), (1, 3), (1, 4), (1, 5), (100, 3)] L f f1 → lv_has ls 6 [(5, .int ii), (0, .ref h0), (1, .ref o), (2, .int lw), (3, .int hg), (4, .int mo)] → W p l e rm_X1_fewest s m [.ref h0, .ref o, .int lw, .int hg, .int mo].toArray below meth c H locs 0 0 (vx_MQ below (Qz dC dI g L f (va_A (va_pl L f) s.heap.size) (fun r L' f' => (∃ z : Int32, r = some (.int z)) ∧ Fr [(0, 0), (0, 1), (0, 2), (0, 3), (0, 4), (0, 5), (0, 6), (0, 7), (7, 0), (7, 1), (7, 2), (7, 3), (7, 4), (7, 5), (7, 6), (7, 7), (1, 3), (1, 4), (1, 5), (100, 3)] L f f') (fun n _ => n = 0)) (XK dC dI g L f s.heap.size (fun E L' f' => (E = NSE) ∧ Fr [(0, 0), (0, 1), (0, 2), (0, 3), (0, 4), (0, 5), (0, 6), (0, 7), (7, 0), (7, 1), (7, 2), (7, 3), (7, 4), (7, 5), (7, 6), (7, 7), (1, 3), (1, 4), (1, 5), (100, 3)] L f f')) [.ref h0, .ref o, .int lw, .int hg, .int mo].toArray s (1) (6) (va_A (va_pl L f) s.heap.size)) (F0 m 13 ls []) := by
    intro n
    induction n with
    | zero => intro ii L1 f1 H locs ls hm  hP hD hS hT hE hF hl; exact absurd hm (by rintro ⟨a, -, h1, h2⟩; omega)
    | succ n ih =>
      intro ii L1 f1 H locs ls hm  hP hD hS hT hE hF hl
      refine lv_iload hx hb dX1_fewest_13 (lv_at hl 0 rfl) ?_
      refine lv_aload_n hx hb dX1_fewest_15 rfl (lv_at hl 1 rfl) ?_
      refine T_get (ci := 1) (C := RX1) (T := TX1) (N := 9) (t := (1, 2, g 10, 6)) hx hb hts inw_X1_fewest_1 hown hK hP hT 0 rfl rfl 1 (by decide) (hts (.fieldLink RX1 11 "VatHouse$Planner" "trialVats" "[LVatHouse$Vat;") (by decide +kernel)) (fun _ h9 => h9) rfl dX1_fewest_16 (fun v_9 hv_7 hr_8 => ?_)
      obtain ⟨b_10, rfl, hb9⟩ := hv_7
      have hT := hT.add hb9
      refine T_alen hx hb hK hP hT 0 10 rfl rfl (v := 6) rfl dX1_fewest_19 ?_
      refine lv_icmp_ge (tgt := 48) hx hb dX1_fewest_20 (by decide) (fun c_11 => ?_) (fun c_11 => ?_)
      · refine lv_aload_n hx hb dX1_fewest_48 rfl (lv_at hl 1 rfl) ?_
        refine T_get (ci := 1) (C := RX1) (T := TX1) (N := 9) (t := (1, 0, 0, 0)) hx hb hts inw_X1_fewest_1 hown hK hP hT 1 rfl rfl 2 (by decide) (hts (.fieldLink RX1 22 "VatHouse$Planner" "trialCloth" "LVatHouse$Cloth;") (by decide +kernel)) (fun _ h9 => h9) rfl dX1_fewest_49 (fun v_14 hv_12 hr_13 => ?_)
        obtain ⟨b_15, rfl, hb9⟩ := hv_12
        have hT := hT.add hb9
        refine lv_aload_n hx hb dX1_fewest_52 rfl (lv_at hl 2 rfl) ?_
        refine K_V ⟨hx, hb, hml, hown, hts⟩ (t_X0_copyFrom l dC dI sa hlt g _ _ b_15 o _ (hT.sub [0, 3] rfl)  ) (cwV 1 hts gX1_fewest_X0_copyFrom rfl rfl rfl (by decide +kernel) ⟨Nat.le_of_ble_eq_true rfl, Nat.le_of_ble_eq_true rfl⟩) hP hD hK hS hA hev hT 0 0 rfl rfl rfl rfl hl.1 rfl (Nat.le_of_ble_eq_true rfl) dX1_fewest_53 ⟨Nat.le_of_ble_eq_true rfl, Nat.le_of_ble_eq_true rfl⟩ (fun r L_16 f_17 H locs hw_18 hP hD hS hT hE1 => ?_)
        have hF := Fr.call hF hE hw_18.2 (by decide)
        have hE := hE.tr hE1
        obtain ⟨rfl, hw_18⟩ := hw_18
        refine W.eq (g2 := F0 m 56 ls []) rfl ?_
        refine lv_iconst (v := 0) hx hb dX1_fewest_56 (by decide) ?_
        refine lv_istore (lv' := [(5, .int 0), (0, .ref h0), (1, .ref o), (2, .int lw), (3, .int hg), (4, .int mo)]) hx hb dX1_fewest_57 hl (by decide) rfl (fun ls hl => ?_)
        have lp : ∀ (n : Nat) (ii : Int32) (L1 : List Nat) (f1 : Nat → va_E) (H : Heap) (locs : List Loc) (ls : Array Slot), (∃ a : Nat, ii = nI a ∧ a ≤ 3 + 1 ∧ 3 + 1 < a + n) → va_P (dC, dI) vwCl (va_pl L1 f1) H → va_D (va_A (va_pl L f) s.heap.size) (va_pl L1 f1) → va_S (va_A (va_pl L f) s.heap.size) s.heap H locs → TP g L1 f1 [(h0, (0, 1, 0)), (o, (0, 0, 0))] → Ext L f L1 f1 → Fr [(0, 0), (0, 1), (0, 2), (0, 3), (0, 4), (0, 5), (0, 6), (0, 7), (7, 0), (7, 1), (7, 2), (7, 3), (7, 4), (7, 5), (7, 6), (7, 7), (1, 3), (1, 4), (1, 5), (100, 3)] L f f1 → lv_has ls 6 [(5, .int ii), (0, .ref h0), (1, .ref o), (2, .int lw), (3, .int hg), (4, .int mo)] → W p l e rm_X1_fewest s m [.ref h0, .ref o, .int lw, .int hg, .int mo].toArray below meth c H locs 0 0 (vx_MQ below (Qz dC dI g L f (va_A (va_pl L f) s.heap.size) (fun r L' f' => (∃ z : Int32, r = some (.int z)) ∧ Fr [(0, 0), (0, 1), (0, 2), (0, 3), (0, 4), (0, 5), (0, 6), (0, 7), (7, 0), (7, 1), (7, 2), (7, 3), (7, 4), (7, 5), (7, 6), (7, 7), (1, 3), (1, 4), (1, 5), (100, 3)] L f f') (fun n _ => n = 0)) (XK dC dI g L f s.heap.size (fun E L' f' => (E = NSE) ∧ Fr [(0, 0), (0, 1), (0, 2), (0, 3), (0, 4), (0, 5), (0, 6), (0, 7), (7, 0), (7, 1), (7, 2), (7, 3), (7, 4), (7, 5), (7, 6), (7, 7), (1, 3), (1, 4), (1, 5), (100, 3)] L f f')) [.ref h0, .ref o, .int lw, .int hg, .int mo].toArray s (1) (6) (va_A (va_pl L f) s.heap.size)) (F0 m 59 ls []) := by
          intro n
          induction n with
          | zero => intro ii L1 f1 H locs ls hm  hP hD hS hT hE hF hl; exact absurd hm (by rintro ⟨a, -, h1, h2⟩; omega)
          | succ n ih =>
            intro ii L1 f1 H locs ls hm  hP hD hS hT hE hF hl
            refine lv_iload hx hb dX1_fewest_59 (lv_at hl 0 rfl) ?_
            refine lv_iload hx hb dX1_fewest_61 (lv_at hl 5 rfl) ?_
            refine lv_icmp_gt (tgt := 97) hx hb dX1_fewest_63 (by decide) (fun c_19 => ?_) (fun c_19 => ?_)
            · refine lv_aload_n hx hb dX1_fewest_97 rfl (lv_at hl 1 rfl) ?_
              refine lv_iconst (v := 0) hx hb dX1_fewest_98 (by decide) ?_
              refine T_put (ci := 1) (v := .int 0) (ty := .int) (t := tI) (C := RX1) (T := TX1) (N := 9) hx hb hts inw_X1_fewest_1 tyX1 tyX1_ok nmX1 hown hK hP hD hS hT 0 rfl rfl 5 (by decide) (hts (.fieldLink RX1 67 "VatHouse$Planner" "kept" "I") (by decide +kernel)) (fun _ h9 => h9) rfl (by decide +kernel) rfl rfl rfl ⟨_, rfl⟩ dX1_fewest_99 (fun f_20 H locs hP hD hS hT hE1 hrd_21 hup_22 => ?_)
              have hF := Fr.put (a := h0) (ci := 1) hF hE ((hE1 h0 (hT.at 0 rfl).1).2.symm.trans (hT.at 0 rfl).2) (by decide) hrd_21 hup_22
              have hE := hE.tr hE1
              refine lv_iconst (v := (-1)) hx hb dX1_fewest_102 (by decide) ?_
              refine vx_ret ?_
              exact K_iZ hx hb hr hlocks hP hD hK hS hT hE ⟨⟨_, rfl⟩, hF⟩ (rfl) (Nat.le_of_ble_eq_true rfl) (Nat.le_of_ble_eq_true rfl) (Nat.le_of_ble_eq_true rfl) dX1_fewest_103
            · refine lv_iload hx hb dX1_fewest_66 (lv_at hl 0 rfl) ?_
              refine lv_iconst (v := 3) hx hb dX1_fewest_68 (by decide) ?_
              refine lv_icmp_gt (tgt := 97) hx hb dX1_fewest_69 (by decide) (fun c_23 => ?_) (fun c_23 => ?_)
              · refine lv_aload_n hx hb dX1_fewest_97 rfl (lv_at hl 1 rfl) ?_
                refine lv_iconst (v := 0) hx hb dX1_fewest_98 (by decide) ?_
                refine T_put (ci := 1) (v := .int 0) (ty := .int) (t := tI) (C := RX1) (T := TX1) (N := 9) hx hb hts inw_X1_fewest_1 tyX1 tyX1_ok nmX1 hown hK hP hD hS hT 0 rfl rfl 5 (by decide) (hts (.fieldLink RX1 67 "VatHouse$Planner" "kept" "I") (by decide +kernel)) (fun _ h9 => h9) rfl (by decide +kernel) rfl rfl rfl ⟨_, rfl⟩ dX1_fewest_99 (fun f_24 H locs hP hD hS hT hE1 hrd_25 hup_26 => ?_)
                have hF := Fr.put (a := h0) (ci := 1) hF hE ((hE1 h0 (hT.at 0 rfl).1).2.symm.trans (hT.at 0 rfl).2) (by decide) hrd_25 hup_26
                have hE := hE.tr hE1
                refine lv_iconst (v := (-1)) hx hb dX1_fewest_102 (by decide) ?_
                refine vx_ret ?_
                exact K_iZ hx hb hr hlocks hP hD hK hS hT hE ⟨⟨_, rfl⟩, hF⟩ (rfl) (Nat.le_of_ble_eq_true rfl) (Nat.le_of_ble_eq_true rfl) (Nat.le_of_ble_eq_true rfl) dX1_fewest_103
              · refine lv_aload_n hx hb dX1_fewest_72 rfl (lv_at hl 1 rfl) ?_
                refine lv_iconst (v := 0) hx hb dX1_fewest_73 (by decide) ?_
                refine lv_iload hx hb dX1_fewest_74 (lv_at hl 0 rfl) ?_
                refine K_V ⟨hx, hb, hml, hown, hts⟩ (X1_reaches_all l dC dI sa hlt g 3 0 rfl _ _ h0 0 ii _ (hT.sub [0] rfl)  nI_0.symm) (cwV 2 hts gX1_fewest_X1_reaches rfl rfl rfl (by decide +kernel) ⟨Nat.le_of_ble_eq_true rfl, Nat.le_of_ble_eq_true rfl⟩) hP hD hK hS hA hev hT 0 1 rfl rfl rfl rfl hl.1 rfl (Nat.le_of_ble_eq_true rfl) dX1_fewest_76 ⟨Nat.le_of_ble_eq_true rfl, Nat.le_of_ble_eq_true rfl⟩ (fun r L_27 f_28 H locs hw_29 hP hD hS hT hE1 => ?_)
                have hF := Fr.call hF hE hw_29.2 (by decide)
                have hE := hE.tr hE1
                obtain ⟨⟨z_30, rfl, hz_z_30⟩, hw_29⟩ := hw_29
                refine W.eq (g2 := F0 m 79 ls [.int z_30]) rfl ?_
                refine lv_if_eq (tgt := 91) hx hb dX1_fewest_79 (by decide) (fun c_31 => ?_) (fun c_31 => ?_)
                · refine lv_iinc (v := (ii + 1)) (lv' := [(5, .int (ii + 1)), (0, .ref h0), (1, .ref o), (2, .int lw), (3, .int hg), (4, .int mo)]) hx hb dX1_fewest_91 hl (k := 0) rfl rfl (by decide) rfl (fun ls hl => ?_)
                  refine lv_goto (tgt := 59) hx hb dX1_fewest_94 (by decide) ?_
                  exact ih (ii + 1) _ _ _ _ _ (up_le (by decide) hm c_23)  hP hD hS (hT.sub [0, 1] rfl) hE hF (lv_sub hl [0, 1, 2, 3, 4, 5] rfl)
                · refine lv_aload_n hx hb dX1_fewest_82 rfl (lv_at hl 1 rfl) ?_
                  refine lv_iload hx hb dX1_fewest_83 (lv_at hl 0 rfl) ?_
                  refine T_put (ci := 1) (v := .int ii) (ty := .int) (t := tI) (C := RX1) (T := TX1) (N := 9) hx hb hts inw_X1_fewest_1 tyX1 tyX1_ok nmX1 hown hK hP hD hS hT 0 rfl rfl 5 (by decide) (hts (.fieldLink RX1 67 "VatHouse$Planner" "kept" "I") (by decide +kernel)) (fun _ h9 => h9) rfl (by decide +kernel) rfl rfl rfl ⟨_, rfl⟩ dX1_fewest_85 (fun f_32 H locs hP hD hS hT hE1 hrd_33 hup_34 => ?_)
                  have hF := Fr.put (a := h0) (ci := 1) hF hE ((hE1 h0 (hT.at 0 rfl).1).2.symm.trans (hT.at 0 rfl).2) (by decide) hrd_33 hup_34
                  have hE := hE.tr hE1
                  refine lv_iload hx hb dX1_fewest_88 (lv_at hl 0 rfl) ?_
                  refine vx_ret ?_
                  exact K_iZ hx hb hr hlocks hP hD hK hS hT hE ⟨⟨_, rfl⟩, hF⟩ (rfl) (Nat.le_of_ble_eq_true rfl) (Nat.le_of_ble_eq_true rfl) (Nat.le_of_ble_eq_true rfl) dX1_fewest_90
        exact lp 5 0 _ _ _ _ _ (⟨0, nI_0.symm, by omega, by omega⟩)  hP hD hS (hT.sub [2, 3] rfl) hE hF (lv_sub hl [0, 1, 2, 3, 4, 5] rfl)
      · refine lv_aload_n hx hb dX1_fewest_23 rfl (lv_at hl 1 rfl) ?_
        refine T_get (ci := 1) (C := RX1) (T := TX1) (N := 9) (t := (1, 2, g 10, 6)) hx hb hts inw_X1_fewest_1 hown hK hP hT 1 rfl rfl 1 (by decide) (hts (.fieldLink RX1 11 "VatHouse$Planner" "trialVats" "[LVatHouse$Vat;") (by decide +kernel)) (fun _ h9 => h9) rfl dX1_fewest_24 (fun v_37 hv_35 hr_36 => ?_)
        obtain rfl : v_37 = .ref b_10 := hr_36.symm.trans hr_8
        refine lv_iload hx hb dX1_fewest_27 (lv_at hl 0 rfl) ?_
        refine T_vald hx hb hK hP hT 0 10 (Or.inr rfl) rfl rfl (up_in (by decide) hm (by decide) c_11 (by decide) (by decide)) dX1_fewest_29 (fun b_38 hb9 hra => ?_)
        have hT := hT.add hb9
        refine lv_aload_n hx hb dX1_fewest_30 rfl (lv_at hl 1 rfl) ?_
        refine T_get (ci := 1) (C := RX1) (T := TX1) (N := 9) (t := (1, 0, 8, 0)) hx hb hts inw_X1_fewest_1 hown hK hP hT 2 rfl rfl 0 (by decide) (hts (.fieldLink RX1 36 "VatHouse$Planner" "works" "LVatHouse$Works;") (by decide +kernel)) (fun _ h9 => h9) rfl dX1_fewest_31 (fun v_41 hv_39 hr_40 => ?_)
        obtain ⟨b_42, rfl, hb9⟩ := hv_39
        have hT := hT.add hb9
        refine lv_iload hx hb dX1_fewest_34 (lv_at hl 0 rfl) ?_
        refine K_VY ⟨hx, hb, hml, hown, hts⟩ (t_X8_vatAtZ l dC dI sa hlt g _ _ b_42 ii _ (hT.sub [0] rfl)  ) (cwV 1 hts gX1_fewest_X8_vatAt rfl rfl rfl (by decide +kernel) ⟨Nat.le_of_ble_eq_true rfl, Nat.le_of_ble_eq_true rfl⟩) hP hD hK hS hA hev hT 0 8 rfl rfl rfl rfl hl.1 rfl (Nat.le_of_ble_eq_true rfl) dX1_fewest_36 ⟨Nat.le_of_ble_eq_true rfl, Nat.le_of_ble_eq_true rfl⟩ (fun E ce q9 L9 f9 H locs hpx hP hD hS hT hE1 hce hcv hcl => ?_) (fun r L_43 f_44 n_46 H locs hw_45 hn_47 hP hD hS hT hE1 => ?_)
        · have hF := Fr.call hF hE hpx.2 (by decide)
          have hE := hE.tr hE1
          exact K_out hno hlocks ⟨hpx.1, hF⟩ hP hD hK hS hT hE hce hcv hcl (Nat.le_of_ble_eq_true rfl) (Nat.le_of_ble_eq_true rfl)
        have hF := Fr.call hF hE hw_45.2 (by decide)
        have hE := hE.tr hE1
        obtain rfl : n_46 = 0 := hn_47
        obtain ⟨⟨v_48, rfl, hv9⟩, hw_45⟩ := hw_45
        obtain ⟨b_49, rfl, hb9⟩ := hv9
        have hT := hT.add hb9
        refine W.eq (g2 := F0 m 39 ls [.ref b_49, .ref b_38]) rfl ?_
        refine K_V ⟨hx, hb, hml, hown, hts⟩ (t_X7_copyFrom l dC dI sa hlt g _ _ b_38 b_49 _ (hT.sub [2, 0] rfl)  ) (cwV 1 hts gX1_fewest_X7_copyFrom rfl rfl rfl (by decide +kernel) ⟨Nat.le_of_ble_eq_true rfl, Nat.le_of_ble_eq_true rfl⟩) hP hD hK hS hA hev hT 2 7 rfl rfl rfl rfl hl.1 rfl (Nat.le_of_ble_eq_true rfl) dX1_fewest_39 ⟨Nat.le_of_ble_eq_true rfl, Nat.le_of_ble_eq_true rfl⟩ (fun r L_50 f_51 H locs hw_52 hP hD hS hT hE1 => ?_)
        have hF := Fr.call hF hE hw_52.2 (by decide)
        have hE := hE.tr hE1
        obtain ⟨rfl, hw_52⟩ := hw_52
        refine W.eq (g2 := F0 m 42 ls []) rfl ?_
        refine lv_iinc (v := (ii + 1)) (lv' := [(5, .int (ii + 1)), (0, .ref h0), (1, .ref o), (2, .int lw), (3, .int hg), (4, .int mo)]) hx hb dX1_fewest_42 hl (k := 0) rfl rfl (by decide) rfl (fun ls hl => ?_)
        refine lv_goto (tgt := 13) hx hb dX1_fewest_45 (by decide) ?_
        exact ih (ii + 1) _ _ _ _ _ (up_nx (by decide) hm (by decide) c_11)  hP hD hS (hT.sub [4, 5] rfl) hE hF (lv_sub hl [0, 1, 2, 3, 4, 5] rfl)
  exact lp 7 0 _ _ _ _ _ (⟨0, nI_0.symm, by omega, by omega⟩)  hP hD hS (hT.sub [0, 1] rfl) hE hF (lv_sub hl [0, 1, 2, 3, 4, 5] rfl)

abbrev rm_X9_plan : Room := { frames := 28, cells := 3, slots := 18, locals := 649 }
theorem inw_X9_plan_0 : ∀ w ∈ wsX00, w ∈ wsX9_plan := by decide +kernel
theorem inw_X9_plan_9 : ∀ w ∈ wsX90, w ∈ wsX9_plan := by decide +kernel
set_option maxHeartbeats 800000 in
set_option maxRecDepth 100000 in
theorem t_X9_plan (l : Launch) (dC : Nat → ClassId) (dI : Nat → Nat → Nat) (sa : Nat → Nat) (hlt : l.stackTraces = false) (g : Nat → Nat) (L : List Nat) (f : Nat → va_E) (h0 : Nat) (a : Int32) (b : Int32) (cq : Int32) (dq : Int32) (sz : Nat) (hT : TP g L f [(h0, (0, 9, 0))]) : KX l dC dI sa g yX9_plan wsX9_plan rm_X9_plan [.ref h0, .int a, .int b, .int cq, .int dq] L f sz (fun r L' f' => (∃ z : Int32, r = some (.int z)) ∧ Fr [(0, 0), (0, 1), (0, 2), (0, 3), (0, 4), (0, 5), (0, 6), (0, 7), (7, 0), (7, 1), (7, 2), (7, 3), (7, 4), (7, 5), (7, 6), (7, 7), (1, 3), (1, 4), (1, 5), (100, 3)] L f f') (fun E L' f' => (E = NSE ∨ E = IAE) ∧ Fr [(0, 0), (0, 1), (0, 2), (0, 3), (0, 4), (0, 5), (0, 6), (0, 7), (7, 0), (7, 1), (7, 2), (7, 3), (7, 4), (7, 5), (7, 6), (7, 7), (1, 3), (1, 4), (1, 5), (100, 3)] L f f') 3 18 := by
  refine KX.start (cc := cX9_plan) (maxL := 6) (ret := (some .int)) (by decide) rfl (Nat.le_of_ble_eq_true rfl) ?_
  intro p e s m below meth c ls hst hno hP hK hD hev hS hl
  obtain ⟨hx, hb, hr, hml, hts, hown, hlocks, hin⟩ := hst
  have hown : s.vm.findClass RX9 = some m.cls := hown
  have hin : meth.name = yX9_plan.name := hin
  have hA : ∀ q : Nat, s.heap.size ≤ q → va_A (va_pl L f) s.heap.size q := fun _ h => Or.inr h
  have hE : Ext L f L f := Ext.rf
  have hF : Fr [(0, 0), (0, 1), (0, 2), (0, 3), (0, 4), (0, 5), (0, 6), (0, 7), (7, 0), (7, 1), (7, 2), (7, 3), (7, 4), (7, 5), (7, 6), (7, 7), (1, 3), (1, 4), (1, 5), (100, 3)] L f f := Fr.rf
  have hl : lv_has ls 6 [(0, .ref h0), (1, .int a), (2, .int b), (3, .int cq), (4, .int dq)] := hl
  refine lv_aload_n hx hb dX9_plan_0 rfl (lv_at hl 0 rfl) ?_
  refine lv_iload_n hx hb dX9_plan_1 rfl (lv_at hl 1 rfl) ?_
  refine K_VX ⟨hx, hb, hml, hown, hts⟩ (t_X9_clothAt l dC dI sa hlt g _ _ h0 a _ (hT.sub [0] rfl)  ) (cwV 1 hts gX9_plan_X9_clothAt rfl rfl rfl (by decide +kernel) ⟨Nat.le_of_ble_eq_true rfl, Nat.le_of_ble_eq_true rfl⟩) hP hD hK hS hA hev hT 0 9 rfl rfl rfl rfl hl.1 rfl (Nat.le_of_ble_eq_true rfl) dX9_plan_2 ⟨Nat.le_of_ble_eq_true rfl, Nat.le_of_ble_eq_true rfl⟩ (fun E ce q9 L9 f9 H locs hpx hP hD hS hT hE1 hce hcv hcl => ?_) (fun r L_1 f_2 H locs hw_3 hP hD hS hT hE1 => ?_)
  · have hF := Fr.call hF hE hpx.2 (by decide)
    have hE := hE.tr hE1
    exact K_out hno hlocks ⟨Or.inl hpx.1, hF⟩ hP hD hK hS hT hE hce hcv hcl (Nat.le_of_ble_eq_true rfl) (Nat.le_of_ble_eq_true rfl)
  have hF := Fr.call hF hE hw_3.2 (by decide)
  have hE := hE.tr hE1
  obtain ⟨⟨v_4, rfl, hv9⟩, hw_3⟩ := hw_3
  obtain ⟨b_5, rfl, hb9⟩ := hv9
  have hT := hT.add hb9
  refine W.eq (g2 := F0 m 5 ls [.ref b_5]) rfl ?_
  refine lv_astore (lv' := [(5, .ref b_5), (0, .ref h0), (1, .int a), (2, .int b), (3, .int cq), (4, .int dq)]) hx hb dX9_plan_5 hl (by decide) rfl (fun ls hl => ?_)
  refine lv_iload hx hb dX9_plan_7 (lv_at hl 5 rfl) ?_
  refine lv_if_lt (tgt := 31) hx hb dX9_plan_9 (by decide) (fun c_6 => ?_) (fun c_6 => ?_)
  · refine lv_iconst (v := 0) hx hb dX9_plan_31 (by decide) ?_
    refine K_SX ⟨hx, hb, hml, hown, hts⟩ (t_X9_demand l dC dI sa hlt g _ _ 0 _ (hT.sub [] rfl)  ) (va_cwS 1 hts gX9_plan_X9_demand rfl rfl rfl (by decide +kernel) ⟨Nat.le_of_ble_eq_true rfl, Nat.le_of_ble_eq_true rfl⟩) hP hD hK hS hA hev hT rfl hl.1 rfl (Nat.le_of_ble_eq_true rfl) dX9_plan_32 ⟨Nat.le_of_ble_eq_true rfl, Nat.le_of_ble_eq_true rfl⟩ (fun E ce q9 L9 f9 H locs hpx hP hD hS hT hE1 hce hcv hcl => ?_) (fun r L_7 f_8 H locs hw_9 hP hD hS hT hE1 => ?_)
    · have hF := Fr.call hF hE hpx.2 (by decide)
      have hE := hE.tr hE1
      exact K_out hno hlocks ⟨Or.inr hpx.1, hF⟩ hP hD hK hS hT hE hce hcv hcl (Nat.le_of_ble_eq_true rfl) (Nat.le_of_ble_eq_true rfl)
    have hF := Fr.call hF hE hw_9.2 (by decide)
    have hE := hE.tr hE1
    obtain ⟨rfl, hw_9⟩ := hw_9
    refine W.eq (g2 := F0 m 35 ls []) rfl ?_
    refine lv_aload hx hb dX9_plan_35 (lv_at hl 0 rfl) ?_
    refine T_get (ci := 0) (C := RX0) (T := TX0) (N := 8) (t := tI) hx hb hts inw_X9_plan_0 hown hK hP hT 0 rfl rfl 4 (by decide) (hts (.fieldLink RX9 102 "VatHouse$Cloth" "dry" "Z") (by decide +kernel)) (fun _ h9 => h9) rfl dX9_plan_37 (fun v_12 hv_10 hr_11 => ?_)
    obtain ⟨z_13, rfl⟩ := hv_10
    refine lv_if_eq (tgt := 45) hx hb dX9_plan_40 (by decide) (fun c_14 => ?_) (fun c_14 => ?_)
    · refine lv_aload_n hx hb dX9_plan_45 rfl (lv_at hl 1 rfl) ?_
      refine T_get (ci := 9) (C := RX9) (T := TX9) (N := 11) (t := (1, 0, 1, 0)) hx hb hts inw_X9_plan_9 hown hK hP hT 1 rfl rfl 10 (by decide) (hts (.fieldLink RX9 53 "VatHouse" "planner" "LVatHouse$Planner;") (by decide +kernel)) (fun _ h9 => h9) rfl dX9_plan_46 (fun v_17 hv_15 hr_16 => ?_)
      obtain ⟨b_18, rfl, hb9⟩ := hv_15
      have hT := hT.add hb9
      refine lv_aload hx hb dX9_plan_49 (lv_at hl 0 rfl) ?_
      refine lv_iload_n hx hb dX9_plan_51 rfl (lv_at hl 3 rfl) ?_
      refine lv_iload_n hx hb dX9_plan_52 rfl (lv_at hl 4 rfl) ?_
      refine lv_iload hx hb dX9_plan_53 (lv_at hl 5 rfl) ?_
      refine K_VY ⟨hx, hb, hml, hown, hts⟩ (t_X1_fewest l dC dI sa hlt g _ _ b_18 b_5 b cq dq _ (hT.sub [0, 1] rfl)  ) (cwV 4 hts gX9_plan_X1_fewest rfl rfl rfl (by decide +kernel) ⟨Nat.le_of_ble_eq_true rfl, Nat.le_of_ble_eq_true rfl⟩) hP hD hK hS hA hev hT 0 1 rfl rfl rfl rfl hl.1 rfl (Nat.le_of_ble_eq_true rfl) dX9_plan_55 ⟨Nat.le_of_ble_eq_true rfl, Nat.le_of_ble_eq_true rfl⟩ (fun E ce q9 L9 f9 H locs hpx hP hD hS hT hE1 hce hcv hcl => ?_) (fun r L_19 f_20 n_22 H locs hw_21 hn_23 hP hD hS hT hE1 => ?_)
      · have hF := Fr.call hF hE hpx.2 (by decide)
        have hE := hE.tr hE1
        exact K_out hno hlocks ⟨Or.inl hpx.1, hF⟩ hP hD hK hS hT hE hce hcv hcl (Nat.le_of_ble_eq_true rfl) (Nat.le_of_ble_eq_true rfl)
      have hF := Fr.call hF hE hw_21.2 (by decide)
      have hE := hE.tr hE1
      obtain rfl : n_22 = 0 := hn_23
      obtain ⟨⟨z_24, rfl⟩, hw_21⟩ := hw_21
      refine W.eq (g2 := F0 m 58 ls [.int z_24]) rfl ?_
      refine vx_ret ?_
      exact K_i hx hb hr hlocks hP hD hK hS hT hE ⟨⟨_, rfl⟩, hF⟩ (Nat.le_of_ble_eq_true rfl) (Nat.le_of_ble_eq_true rfl) dX9_plan_58
    · refine lv_iconst (v := (-1)) hx hb dX9_plan_43 (by decide) ?_
      refine vx_ret ?_
      exact K_i hx hb hr hlocks hP hD hK hS hT hE ⟨⟨_, rfl⟩, hF⟩ (Nat.le_of_ble_eq_true rfl) (Nat.le_of_ble_eq_true rfl) dX9_plan_44
  · refine lv_iload hx hb dX9_plan_12 (lv_at hl 5 rfl) ?_
    refine lv_iconst (v := 3) hx hb dX9_plan_14 (by decide) ?_
    refine lv_icmp_gt (tgt := 31) hx hb dX9_plan_15 (by decide) (fun c_25 => ?_) (fun c_25 => ?_)
    · refine lv_iconst (v := 0) hx hb dX9_plan_31 (by decide) ?_
      refine K_SX ⟨hx, hb, hml, hown, hts⟩ (t_X9_demand l dC dI sa hlt g _ _ 0 _ (hT.sub [] rfl)  ) (va_cwS 1 hts gX9_plan_X9_demand rfl rfl rfl (by decide +kernel) ⟨Nat.le_of_ble_eq_true rfl, Nat.le_of_ble_eq_true rfl⟩) hP hD hK hS hA hev hT rfl hl.1 rfl (Nat.le_of_ble_eq_true rfl) dX9_plan_32 ⟨Nat.le_of_ble_eq_true rfl, Nat.le_of_ble_eq_true rfl⟩ (fun E ce q9 L9 f9 H locs hpx hP hD hS hT hE1 hce hcv hcl => ?_) (fun r L_26 f_27 H locs hw_28 hP hD hS hT hE1 => ?_)
      · have hF := Fr.call hF hE hpx.2 (by decide)
        have hE := hE.tr hE1
        exact K_out hno hlocks ⟨Or.inr hpx.1, hF⟩ hP hD hK hS hT hE hce hcv hcl (Nat.le_of_ble_eq_true rfl) (Nat.le_of_ble_eq_true rfl)
      have hF := Fr.call hF hE hw_28.2 (by decide)
      have hE := hE.tr hE1
      obtain ⟨rfl, hw_28⟩ := hw_28
      refine W.eq (g2 := F0 m 35 ls []) rfl ?_
      refine lv_aload hx hb dX9_plan_35 (lv_at hl 0 rfl) ?_
      refine T_get (ci := 0) (C := RX0) (T := TX0) (N := 8) (t := tI) hx hb hts inw_X9_plan_0 hown hK hP hT 0 rfl rfl 4 (by decide) (hts (.fieldLink RX9 102 "VatHouse$Cloth" "dry" "Z") (by decide +kernel)) (fun _ h9 => h9) rfl dX9_plan_37 (fun v_31 hv_29 hr_30 => ?_)
      obtain ⟨z_32, rfl⟩ := hv_29
      refine lv_if_eq (tgt := 45) hx hb dX9_plan_40 (by decide) (fun c_33 => ?_) (fun c_33 => ?_)
      · refine lv_aload_n hx hb dX9_plan_45 rfl (lv_at hl 1 rfl) ?_
        refine T_get (ci := 9) (C := RX9) (T := TX9) (N := 11) (t := (1, 0, 1, 0)) hx hb hts inw_X9_plan_9 hown hK hP hT 1 rfl rfl 10 (by decide) (hts (.fieldLink RX9 53 "VatHouse" "planner" "LVatHouse$Planner;") (by decide +kernel)) (fun _ h9 => h9) rfl dX9_plan_46 (fun v_36 hv_34 hr_35 => ?_)
        obtain ⟨b_37, rfl, hb9⟩ := hv_34
        have hT := hT.add hb9
        refine lv_aload hx hb dX9_plan_49 (lv_at hl 0 rfl) ?_
        refine lv_iload_n hx hb dX9_plan_51 rfl (lv_at hl 3 rfl) ?_
        refine lv_iload_n hx hb dX9_plan_52 rfl (lv_at hl 4 rfl) ?_
        refine lv_iload hx hb dX9_plan_53 (lv_at hl 5 rfl) ?_
        refine K_VY ⟨hx, hb, hml, hown, hts⟩ (t_X1_fewest l dC dI sa hlt g _ _ b_37 b_5 b cq dq _ (hT.sub [0, 1] rfl)  ) (cwV 4 hts gX9_plan_X1_fewest rfl rfl rfl (by decide +kernel) ⟨Nat.le_of_ble_eq_true rfl, Nat.le_of_ble_eq_true rfl⟩) hP hD hK hS hA hev hT 0 1 rfl rfl rfl rfl hl.1 rfl (Nat.le_of_ble_eq_true rfl) dX9_plan_55 ⟨Nat.le_of_ble_eq_true rfl, Nat.le_of_ble_eq_true rfl⟩ (fun E ce q9 L9 f9 H locs hpx hP hD hS hT hE1 hce hcv hcl => ?_) (fun r L_38 f_39 n_41 H locs hw_40 hn_42 hP hD hS hT hE1 => ?_)
        · have hF := Fr.call hF hE hpx.2 (by decide)
          have hE := hE.tr hE1
          exact K_out hno hlocks ⟨Or.inl hpx.1, hF⟩ hP hD hK hS hT hE hce hcv hcl (Nat.le_of_ble_eq_true rfl) (Nat.le_of_ble_eq_true rfl)
        have hF := Fr.call hF hE hw_40.2 (by decide)
        have hE := hE.tr hE1
        obtain rfl : n_41 = 0 := hn_42
        obtain ⟨⟨z_43, rfl⟩, hw_40⟩ := hw_40
        refine W.eq (g2 := F0 m 58 ls [.int z_43]) rfl ?_
        refine vx_ret ?_
        exact K_i hx hb hr hlocks hP hD hK hS hT hE ⟨⟨_, rfl⟩, hF⟩ (Nat.le_of_ble_eq_true rfl) (Nat.le_of_ble_eq_true rfl) dX9_plan_58
      · refine lv_iconst (v := (-1)) hx hb dX9_plan_43 (by decide) ?_
        refine vx_ret ?_
        exact K_i hx hb hr hlocks hP hD hK hS hT hE ⟨⟨_, rfl⟩, hF⟩ (Nat.le_of_ble_eq_true rfl) (Nat.le_of_ble_eq_true rfl) dX9_plan_44
    · refine lv_iload_n hx hb dX9_plan_18 rfl (lv_at hl 3 rfl) ?_
      refine lv_if_lt (tgt := 31) hx hb dX9_plan_19 (by decide) (fun c_44 => ?_) (fun c_44 => ?_)
      · refine lv_iconst (v := 0) hx hb dX9_plan_31 (by decide) ?_
        refine K_SX ⟨hx, hb, hml, hown, hts⟩ (t_X9_demand l dC dI sa hlt g _ _ 0 _ (hT.sub [] rfl)  ) (va_cwS 1 hts gX9_plan_X9_demand rfl rfl rfl (by decide +kernel) ⟨Nat.le_of_ble_eq_true rfl, Nat.le_of_ble_eq_true rfl⟩) hP hD hK hS hA hev hT rfl hl.1 rfl (Nat.le_of_ble_eq_true rfl) dX9_plan_32 ⟨Nat.le_of_ble_eq_true rfl, Nat.le_of_ble_eq_true rfl⟩ (fun E ce q9 L9 f9 H locs hpx hP hD hS hT hE1 hce hcv hcl => ?_) (fun r L_45 f_46 H locs hw_47 hP hD hS hT hE1 => ?_)
        · have hF := Fr.call hF hE hpx.2 (by decide)
          have hE := hE.tr hE1
          exact K_out hno hlocks ⟨Or.inr hpx.1, hF⟩ hP hD hK hS hT hE hce hcv hcl (Nat.le_of_ble_eq_true rfl) (Nat.le_of_ble_eq_true rfl)
        have hF := Fr.call hF hE hw_47.2 (by decide)
        have hE := hE.tr hE1
        obtain ⟨rfl, hw_47⟩ := hw_47
        refine W.eq (g2 := F0 m 35 ls []) rfl ?_
        refine lv_aload hx hb dX9_plan_35 (lv_at hl 0 rfl) ?_
        refine T_get (ci := 0) (C := RX0) (T := TX0) (N := 8) (t := tI) hx hb hts inw_X9_plan_0 hown hK hP hT 0 rfl rfl 4 (by decide) (hts (.fieldLink RX9 102 "VatHouse$Cloth" "dry" "Z") (by decide +kernel)) (fun _ h9 => h9) rfl dX9_plan_37 (fun v_50 hv_48 hr_49 => ?_)
        obtain ⟨z_51, rfl⟩ := hv_48
        refine lv_if_eq (tgt := 45) hx hb dX9_plan_40 (by decide) (fun c_52 => ?_) (fun c_52 => ?_)
        · refine lv_aload_n hx hb dX9_plan_45 rfl (lv_at hl 1 rfl) ?_
          refine T_get (ci := 9) (C := RX9) (T := TX9) (N := 11) (t := (1, 0, 1, 0)) hx hb hts inw_X9_plan_9 hown hK hP hT 1 rfl rfl 10 (by decide) (hts (.fieldLink RX9 53 "VatHouse" "planner" "LVatHouse$Planner;") (by decide +kernel)) (fun _ h9 => h9) rfl dX9_plan_46 (fun v_55 hv_53 hr_54 => ?_)
          obtain ⟨b_56, rfl, hb9⟩ := hv_53
          have hT := hT.add hb9
          refine lv_aload hx hb dX9_plan_49 (lv_at hl 0 rfl) ?_
          refine lv_iload_n hx hb dX9_plan_51 rfl (lv_at hl 3 rfl) ?_
          refine lv_iload_n hx hb dX9_plan_52 rfl (lv_at hl 4 rfl) ?_
          refine lv_iload hx hb dX9_plan_53 (lv_at hl 5 rfl) ?_
          refine K_VY ⟨hx, hb, hml, hown, hts⟩ (t_X1_fewest l dC dI sa hlt g _ _ b_56 b_5 b cq dq _ (hT.sub [0, 1] rfl)  ) (cwV 4 hts gX9_plan_X1_fewest rfl rfl rfl (by decide +kernel) ⟨Nat.le_of_ble_eq_true rfl, Nat.le_of_ble_eq_true rfl⟩) hP hD hK hS hA hev hT 0 1 rfl rfl rfl rfl hl.1 rfl (Nat.le_of_ble_eq_true rfl) dX9_plan_55 ⟨Nat.le_of_ble_eq_true rfl, Nat.le_of_ble_eq_true rfl⟩ (fun E ce q9 L9 f9 H locs hpx hP hD hS hT hE1 hce hcv hcl => ?_) (fun r L_57 f_58 n_60 H locs hw_59 hn_61 hP hD hS hT hE1 => ?_)
          · have hF := Fr.call hF hE hpx.2 (by decide)
            have hE := hE.tr hE1
            exact K_out hno hlocks ⟨Or.inl hpx.1, hF⟩ hP hD hK hS hT hE hce hcv hcl (Nat.le_of_ble_eq_true rfl) (Nat.le_of_ble_eq_true rfl)
          have hF := Fr.call hF hE hw_59.2 (by decide)
          have hE := hE.tr hE1
          obtain rfl : n_60 = 0 := hn_61
          obtain ⟨⟨z_62, rfl⟩, hw_59⟩ := hw_59
          refine W.eq (g2 := F0 m 58 ls [.int z_62]) rfl ?_
          refine vx_ret ?_
          exact K_i hx hb hr hlocks hP hD hK hS hT hE ⟨⟨_, rfl⟩, hF⟩ (Nat.le_of_ble_eq_true rfl) (Nat.le_of_ble_eq_true rfl) dX9_plan_58
        · refine lv_iconst (v := (-1)) hx hb dX9_plan_43 (by decide) ?_
          refine vx_ret ?_
          exact K_i hx hb hr hlocks hP hD hK hS hT hE ⟨⟨_, rfl⟩, hF⟩ (Nat.le_of_ble_eq_true rfl) (Nat.le_of_ble_eq_true rfl) dX9_plan_44
      · refine lv_iload_n hx hb dX9_plan_22 rfl (lv_at hl 3 rfl) ?_
        refine lv_iload_n hx hb dX9_plan_23 rfl (lv_at hl 4 rfl) ?_
        refine lv_icmp_gt (tgt := 31) hx hb dX9_plan_24 (by decide) (fun c_63 => ?_) (fun c_63 => ?_)
        · refine lv_iconst (v := 0) hx hb dX9_plan_31 (by decide) ?_
          refine K_SX ⟨hx, hb, hml, hown, hts⟩ (t_X9_demand l dC dI sa hlt g _ _ 0 _ (hT.sub [] rfl)  ) (va_cwS 1 hts gX9_plan_X9_demand rfl rfl rfl (by decide +kernel) ⟨Nat.le_of_ble_eq_true rfl, Nat.le_of_ble_eq_true rfl⟩) hP hD hK hS hA hev hT rfl hl.1 rfl (Nat.le_of_ble_eq_true rfl) dX9_plan_32 ⟨Nat.le_of_ble_eq_true rfl, Nat.le_of_ble_eq_true rfl⟩ (fun E ce q9 L9 f9 H locs hpx hP hD hS hT hE1 hce hcv hcl => ?_) (fun r L_64 f_65 H locs hw_66 hP hD hS hT hE1 => ?_)
          · have hF := Fr.call hF hE hpx.2 (by decide)
            have hE := hE.tr hE1
            exact K_out hno hlocks ⟨Or.inr hpx.1, hF⟩ hP hD hK hS hT hE hce hcv hcl (Nat.le_of_ble_eq_true rfl) (Nat.le_of_ble_eq_true rfl)
          have hF := Fr.call hF hE hw_66.2 (by decide)
          have hE := hE.tr hE1
          obtain ⟨rfl, hw_66⟩ := hw_66
          refine W.eq (g2 := F0 m 35 ls []) rfl ?_
          refine lv_aload hx hb dX9_plan_35 (lv_at hl 0 rfl) ?_
          refine T_get (ci := 0) (C := RX0) (T := TX0) (N := 8) (t := tI) hx hb hts inw_X9_plan_0 hown hK hP hT 0 rfl rfl 4 (by decide) (hts (.fieldLink RX9 102 "VatHouse$Cloth" "dry" "Z") (by decide +kernel)) (fun _ h9 => h9) rfl dX9_plan_37 (fun v_69 hv_67 hr_68 => ?_)
          obtain ⟨z_70, rfl⟩ := hv_67
          refine lv_if_eq (tgt := 45) hx hb dX9_plan_40 (by decide) (fun c_71 => ?_) (fun c_71 => ?_)
          · refine lv_aload_n hx hb dX9_plan_45 rfl (lv_at hl 1 rfl) ?_
            refine T_get (ci := 9) (C := RX9) (T := TX9) (N := 11) (t := (1, 0, 1, 0)) hx hb hts inw_X9_plan_9 hown hK hP hT 1 rfl rfl 10 (by decide) (hts (.fieldLink RX9 53 "VatHouse" "planner" "LVatHouse$Planner;") (by decide +kernel)) (fun _ h9 => h9) rfl dX9_plan_46 (fun v_74 hv_72 hr_73 => ?_)
            obtain ⟨b_75, rfl, hb9⟩ := hv_72
            have hT := hT.add hb9
            refine lv_aload hx hb dX9_plan_49 (lv_at hl 0 rfl) ?_
            refine lv_iload_n hx hb dX9_plan_51 rfl (lv_at hl 3 rfl) ?_
            refine lv_iload_n hx hb dX9_plan_52 rfl (lv_at hl 4 rfl) ?_
            refine lv_iload hx hb dX9_plan_53 (lv_at hl 5 rfl) ?_
            refine K_VY ⟨hx, hb, hml, hown, hts⟩ (t_X1_fewest l dC dI sa hlt g _ _ b_75 b_5 b cq dq _ (hT.sub [0, 1] rfl)  ) (cwV 4 hts gX9_plan_X1_fewest rfl rfl rfl (by decide +kernel) ⟨Nat.le_of_ble_eq_true rfl, Nat.le_of_ble_eq_true rfl⟩) hP hD hK hS hA hev hT 0 1 rfl rfl rfl rfl hl.1 rfl (Nat.le_of_ble_eq_true rfl) dX9_plan_55 ⟨Nat.le_of_ble_eq_true rfl, Nat.le_of_ble_eq_true rfl⟩ (fun E ce q9 L9 f9 H locs hpx hP hD hS hT hE1 hce hcv hcl => ?_) (fun r L_76 f_77 n_79 H locs hw_78 hn_80 hP hD hS hT hE1 => ?_)
            · have hF := Fr.call hF hE hpx.2 (by decide)
              have hE := hE.tr hE1
              exact K_out hno hlocks ⟨Or.inl hpx.1, hF⟩ hP hD hK hS hT hE hce hcv hcl (Nat.le_of_ble_eq_true rfl) (Nat.le_of_ble_eq_true rfl)
            have hF := Fr.call hF hE hw_78.2 (by decide)
            have hE := hE.tr hE1
            obtain rfl : n_79 = 0 := hn_80
            obtain ⟨⟨z_81, rfl⟩, hw_78⟩ := hw_78
            refine W.eq (g2 := F0 m 58 ls [.int z_81]) rfl ?_
            refine vx_ret ?_
            exact K_i hx hb hr hlocks hP hD hK hS hT hE ⟨⟨_, rfl⟩, hF⟩ (Nat.le_of_ble_eq_true rfl) (Nat.le_of_ble_eq_true rfl) dX9_plan_58
          · refine lv_iconst (v := (-1)) hx hb dX9_plan_43 (by decide) ?_
            refine vx_ret ?_
            exact K_i hx hb hr hlocks hP hD hK hS hT hE ⟨⟨_, rfl⟩, hF⟩ (Nat.le_of_ble_eq_true rfl) (Nat.le_of_ble_eq_true rfl) dX9_plan_44
        · refine lv_iconst (v := 1) hx hb dX9_plan_27 (by decide) ?_
          refine lv_goto (tgt := 32) hx hb dX9_plan_28 (by decide) ?_
          refine K_SX ⟨hx, hb, hml, hown, hts⟩ (t_X9_demand l dC dI sa hlt g _ _ 1 _ (hT.sub [] rfl)  ) (va_cwS 1 hts gX9_plan_X9_demand rfl rfl rfl (by decide +kernel) ⟨Nat.le_of_ble_eq_true rfl, Nat.le_of_ble_eq_true rfl⟩) hP hD hK hS hA hev hT rfl hl.1 rfl (Nat.le_of_ble_eq_true rfl) dX9_plan_32 ⟨Nat.le_of_ble_eq_true rfl, Nat.le_of_ble_eq_true rfl⟩ (fun E ce q9 L9 f9 H locs hpx hP hD hS hT hE1 hce hcv hcl => ?_) (fun r L_82 f_83 H locs hw_84 hP hD hS hT hE1 => ?_)
          · have hF := Fr.call hF hE hpx.2 (by decide)
            have hE := hE.tr hE1
            exact K_out hno hlocks ⟨Or.inr hpx.1, hF⟩ hP hD hK hS hT hE hce hcv hcl (Nat.le_of_ble_eq_true rfl) (Nat.le_of_ble_eq_true rfl)
          have hF := Fr.call hF hE hw_84.2 (by decide)
          have hE := hE.tr hE1
          obtain ⟨rfl, hw_84⟩ := hw_84
          refine W.eq (g2 := F0 m 35 ls []) rfl ?_
          refine lv_aload hx hb dX9_plan_35 (lv_at hl 0 rfl) ?_
          refine T_get (ci := 0) (C := RX0) (T := TX0) (N := 8) (t := tI) hx hb hts inw_X9_plan_0 hown hK hP hT 0 rfl rfl 4 (by decide) (hts (.fieldLink RX9 102 "VatHouse$Cloth" "dry" "Z") (by decide +kernel)) (fun _ h9 => h9) rfl dX9_plan_37 (fun v_87 hv_85 hr_86 => ?_)
          obtain ⟨z_88, rfl⟩ := hv_85
          refine lv_if_eq (tgt := 45) hx hb dX9_plan_40 (by decide) (fun c_89 => ?_) (fun c_89 => ?_)
          · refine lv_aload_n hx hb dX9_plan_45 rfl (lv_at hl 1 rfl) ?_
            refine T_get (ci := 9) (C := RX9) (T := TX9) (N := 11) (t := (1, 0, 1, 0)) hx hb hts inw_X9_plan_9 hown hK hP hT 1 rfl rfl 10 (by decide) (hts (.fieldLink RX9 53 "VatHouse" "planner" "LVatHouse$Planner;") (by decide +kernel)) (fun _ h9 => h9) rfl dX9_plan_46 (fun v_92 hv_90 hr_91 => ?_)
            obtain ⟨b_93, rfl, hb9⟩ := hv_90
            have hT := hT.add hb9
            refine lv_aload hx hb dX9_plan_49 (lv_at hl 0 rfl) ?_
            refine lv_iload_n hx hb dX9_plan_51 rfl (lv_at hl 3 rfl) ?_
            refine lv_iload_n hx hb dX9_plan_52 rfl (lv_at hl 4 rfl) ?_
            refine lv_iload hx hb dX9_plan_53 (lv_at hl 5 rfl) ?_
            refine K_VY ⟨hx, hb, hml, hown, hts⟩ (t_X1_fewest l dC dI sa hlt g _ _ b_93 b_5 b cq dq _ (hT.sub [0, 1] rfl)  ) (cwV 4 hts gX9_plan_X1_fewest rfl rfl rfl (by decide +kernel) ⟨Nat.le_of_ble_eq_true rfl, Nat.le_of_ble_eq_true rfl⟩) hP hD hK hS hA hev hT 0 1 rfl rfl rfl rfl hl.1 rfl (Nat.le_of_ble_eq_true rfl) dX9_plan_55 ⟨Nat.le_of_ble_eq_true rfl, Nat.le_of_ble_eq_true rfl⟩ (fun E ce q9 L9 f9 H locs hpx hP hD hS hT hE1 hce hcv hcl => ?_) (fun r L_94 f_95 n_97 H locs hw_96 hn_98 hP hD hS hT hE1 => ?_)
            · have hF := Fr.call hF hE hpx.2 (by decide)
              have hE := hE.tr hE1
              exact K_out hno hlocks ⟨Or.inl hpx.1, hF⟩ hP hD hK hS hT hE hce hcv hcl (Nat.le_of_ble_eq_true rfl) (Nat.le_of_ble_eq_true rfl)
            have hF := Fr.call hF hE hw_96.2 (by decide)
            have hE := hE.tr hE1
            obtain rfl : n_97 = 0 := hn_98
            obtain ⟨⟨z_99, rfl⟩, hw_96⟩ := hw_96
            refine W.eq (g2 := F0 m 58 ls [.int z_99]) rfl ?_
            refine vx_ret ?_
            exact K_i hx hb hr hlocks hP hD hK hS hT hE ⟨⟨_, rfl⟩, hF⟩ (Nat.le_of_ble_eq_true rfl) (Nat.le_of_ble_eq_true rfl) dX9_plan_58
          · refine lv_iconst (v := (-1)) hx hb dX9_plan_43 (by decide) ?_
            refine vx_ret ?_
            exact K_i hx hb hr hlocks hP hD hK hS hT hE ⟨⟨_, rfl⟩, hF⟩ (Nat.le_of_ble_eq_true rfl) (Nat.le_of_ble_eq_true rfl) dX9_plan_44

abbrev rm_X9_append : Room := { frames := 0, cells := 0, slots := 0, locals := 0 }
theorem inw_X9_append_9 : ∀ w ∈ wsX90, w ∈ wsX9_append := by decide +kernel
set_option maxHeartbeats 800000 in
set_option maxRecDepth 100000 in
theorem t_X9_append (l : Launch) (dC : Nat → ClassId) (dI : Nat → Nat → Nat) (sa : Nat → Nat) (hlt : l.stackTraces = false) (g : Nat → Nat) (L : List Nat) (f : Nat → va_E) (h0 : Nat) (fb : Int32) (tl : Int32) (sz : Nat) (hT : TP g L f [(h0, (0, 9, 0))]) (hm_tl : rd f h0 5 = .int tl) : KC l dC dI sa g yX9_append wsX9_append rm_X9_append [.ref h0, .int fb] L f sz (fun r L' f' => (r = none) ∧ Fr [(9, 5), (100, 1500)] L f f' ∧ (∃ tl' : Int32, rd f' h0 5 = .int tl' ∧ (0 ≤ tl.toInt → tl.toInt ≤ 1496 → tl'.toInt = tl.toInt + 4))) 0 0 := by
  refine CT.start (cc := cX9_append) (maxL := 3) (ret := none) (by decide) rfl (Nat.le_of_ble_eq_true rfl) ?_
  intro p e s m below meth c ls hst hP hK hD hev hS hl
  obtain ⟨hx, hb, hr, hml, hts, hown, hlocks, hin⟩ := hst
  have hown : s.vm.findClass RX9 = some m.cls := hown
  have hin : meth.name = yX9_append.name := hin
  have hA : ∀ q : Nat, s.heap.size ≤ q → va_A (va_pl L f) s.heap.size q := fun _ h => Or.inr h
  have hE : Ext L f L f := Ext.rf
  have hF : Fr [(9, 5), (100, 1500)] L f f := Fr.rf
  have hl : lv_has ls 3 [(0, .ref h0), (1, .int fb)] := hl
  refine lv_bipush (v := 24) hx hb dX9_append_0 (by decide) ?_
  refine lv_istore_n (lv' := [(2, .int 24), (0, .ref h0), (1, .int fb)]) hx hb dX9_append_2 rfl hl (by decide) rfl (fun ls hl => ?_)
  have lp : ∀ (n : Nat) (sh : Int32) (k1 : Int32) (L1 : List Nat) (f1 : Nat → va_E) (H : Heap) (locs : List Loc) (ls : Array Slot), (Ap tl k1 sh n) → rd f1 h0 5 = .int k1 → va_P (dC, dI) vwCl (va_pl L1 f1) H → va_D (va_A (va_pl L f) s.heap.size) (va_pl L1 f1) → va_S (va_A (va_pl L f) s.heap.size) s.heap H locs → TP g L1 f1 [(h0, (0, 9, 0))] → Ext L f L1 f1 → Fr [(9, 5), (100, 1500)] L f f1 → lv_has ls 3 [(2, .int sh), (0, .ref h0), (1, .int fb)] → W p l e rm_X9_append s m [.ref h0, .int fb].toArray below meth c H locs 0 0 (MQ below (Qg (kpost g L f (fun r L' f' => (r = none) ∧ Fr [(9, 5), (100, 1500)] L f f' ∧ (∃ tl' : Int32, rd f' h0 5 = .int tl' ∧ (0 ≤ tl.toInt → tl.toInt ≤ 1496 → tl'.toInt = tl.toInt + 4)))) (fun (u : PL) t => QW dC dI (va_A (va_pl L f) s.heap.size) (va_pl u.1 u.2) [] t) (va_A (va_pl L f) s.heap.size)) [.ref h0, .int fb].toArray s (0) (0) (va_A (va_pl L f) s.heap.size)) (F0 m 3 ls []) := by
    intro n
    induction n with
    | zero => intro sh k1 L1 f1 H locs ls hm hk_h0_5 hP hD hS hT hE hF hl; exact hm.z.elim
    | succ n ih =>
      intro sh k1 L1 f1 H locs ls hm hk_h0_5 hP hD hS hT hE hF hl
      refine lv_iload_n hx hb dX9_append_3 rfl (lv_at hl 0 rfl) ?_
      refine lv_if_lt (tgt := 55) hx hb dX9_append_4 (by decide) (fun c_1 => ?_) (fun c_1 => ?_)
      · exact K_v hx hb hr hlocks hP hD hK hS hT hE ⟨rfl, hF, _, hk_h0_5, hm.e c_1⟩ (Nat.le_of_ble_eq_true rfl) (Nat.le_of_ble_eq_true rfl) dX9_append_55
      · refine lv_aload_n hx hb dX9_append_7 rfl (lv_at hl 1 rfl) ?_
        refine T_get (ci := 9) (C := RX9) (T := TX9) (N := 11) (t := tI) hx hb hts inw_X9_append_9 hown hK hP hT 0 rfl rfl 5 (by decide) (hts (.fieldLink RX9 124 "VatHouse" "tapeLength" "I") (by decide +kernel)) (fun _ h9 => h9) rfl dX9_append_8 (fun v_4 hv_2 hr_3 => ?_)
        obtain rfl : v_4 = .int k1 := hr_3.symm.trans hk_h0_5
        refine lv_if_lt (tgt := 49) hx hb dX9_append_11 (by decide) (fun c_5 => ?_) (fun c_5 => ?_)
        · refine lv_iinc (v := (sh + (-8))) (lv' := [(2, .int (sh + (-8))), (0, .ref h0), (1, .int fb)]) hx hb dX9_append_49 hl (k := 0) rfl rfl (by decide) rfl (fun ls hl => ?_)
          refine lv_goto (tgt := 3) hx hb dX9_append_52 (by decide) ?_
          exact ih (sh + (-8)) k1 _ _ _ _ _ (hm.nx c_1 (ap_a c_5)) hk_h0_5 hP hD hS (hT.sub [0] rfl) hE hF (lv_sub hl [0, 1, 2] rfl)
        · refine lv_aload_n hx hb dX9_append_14 rfl (lv_at hl 1 rfl) ?_
          refine T_get (ci := 9) (C := RX9) (T := TX9) (N := 11) (t := tI) hx hb hts inw_X9_append_9 hown hK hP hT 0 rfl rfl 5 (by decide) (hts (.fieldLink RX9 124 "VatHouse" "tapeLength" "I") (by decide +kernel)) (fun _ h9 => h9) rfl dX9_append_15 (fun v_8 hv_6 hr_7 => ?_)
          obtain rfl : v_8 = .int k1 := hr_7.symm.trans hk_h0_5
          refine lv_aload_n hx hb dX9_append_18 rfl (lv_at hl 1 rfl) ?_
          refine T_get (ci := 9) (C := RX9) (T := TX9) (N := 11) (t := (1, 1, g 1, 1500)) hx hb hts inw_X9_append_9 hown hK hP hT 0 rfl rfl 4 (by decide) (hts (.fieldLink RX9 22 "VatHouse" "tape" "[B") (by decide +kernel)) (fun _ h9 => h9) rfl dX9_append_19 (fun v_11 hv_9 hr_10 => ?_)
          obtain ⟨b_12, rfl, hb9⟩ := hv_9
          have hT := hT.add hb9
          refine T_alen hx hb hK hP hT 0 1 rfl rfl (v := 1500) rfl dX9_append_22 ?_
          refine lv_icmp_ge (tgt := 49) hx hb dX9_append_23 (by decide) (fun c_13 => ?_) (fun c_13 => ?_)
          · refine lv_iinc (v := (sh + (-8))) (lv' := [(2, .int (sh + (-8))), (0, .ref h0), (1, .int fb)]) hx hb dX9_append_49 hl (k := 0) rfl rfl (by decide) rfl (fun ls hl => ?_)
            refine lv_goto (tgt := 3) hx hb dX9_append_52 (by decide) ?_
            exact ih (sh + (-8)) k1 _ _ _ _ _ (hm.nx c_1 (ap_b c_13)) hk_h0_5 hP hD hS (hT.sub [1] rfl) hE hF (lv_sub hl [0, 1, 2] rfl)
          · refine lv_aload_n hx hb dX9_append_26 rfl (lv_at hl 1 rfl) ?_
            refine T_get (ci := 9) (C := RX9) (T := TX9) (N := 11) (t := (1, 1, g 1, 1500)) hx hb hts inw_X9_append_9 hown hK hP hT 1 rfl rfl 4 (by decide) (hts (.fieldLink RX9 22 "VatHouse" "tape" "[B") (by decide +kernel)) (fun _ h9 => h9) rfl dX9_append_27 (fun v_16 hv_14 hr_15 => ?_)
            obtain rfl : v_16 = .ref b_12 := hr_15.symm.trans hr_10
            refine lv_aload_n hx hb dX9_append_30 rfl (lv_at hl 1 rfl) ?_
            refine T_get (ci := 9) (C := RX9) (T := TX9) (N := 11) (t := tI) hx hb hts inw_X9_append_9 hown hK hP hT 1 rfl rfl 5 (by decide) (hts (.fieldLink RX9 124 "VatHouse" "tapeLength" "I") (by decide +kernel)) (fun _ h9 => h9) rfl dX9_append_31 (fun v_19 hv_17 hr_18 => ?_)
            obtain rfl : v_19 = .int k1 := hr_18.symm.trans hk_h0_5
            refine lv_iload_n hx hb dX9_append_34 rfl (lv_at hl 2 rfl) ?_
            refine lv_iload_n hx hb dX9_append_35 rfl (lv_at hl 0 rfl) ?_
            refine lv_ishr hx hb dX9_append_36 ?_
            refine lv_topi (fun z_20 ez_20 => ?_)
            refine lv_i2b (v := (z_20).toInt8.toInt32) hx hb dX9_append_37 rfl ?_
            refine lv_topi (fun z_21 ez_21 => ?_)
            have hTo := hT
            refine T_bast hx hb hK hP hD hS hT 0 1 rfl rfl (vin 1500 (by decide) rfl (by assumption) (by assumption)) dX9_append_38 (fun f_22 H locs hP hD hS hT hE1 hrd_23 hup_24 hia_25 => ?_)
            have hF := Fr.arr (a := b_12) hF hE ((hE1 b_12 (hT.at 0 rfl).1).2.symm.trans (hT.at 0 rfl).2) (by decide) hrd_23 hup_24
            have hE := hE.tr hE1
            have hk_26 : rd f_22 h0 5 = .int k1 := (hrd_23 h0 5).trans hk_h0_5
            refine lv_aload_n hx hb dX9_append_39 rfl (lv_at hl 1 rfl) ?_
            refine lv_dup hx hb dX9_append_40 rfl ?_
            refine T_get (ci := 9) (C := RX9) (T := TX9) (N := 11) (t := tI) hx hb hts inw_X9_append_9 hown hK hP hT 1 rfl rfl 5 (by decide) (hts (.fieldLink RX9 124 "VatHouse" "tapeLength" "I") (by decide +kernel)) (fun _ h9 => h9) rfl dX9_append_41 (fun v_29 hv_27 hr_28 => ?_)
            obtain rfl : v_29 = .int k1 := hr_28.symm.trans hk_26
            refine lv_iconst (v := 1) hx hb dX9_append_44 (by decide) ?_
            refine lv_iadd hx hb dX9_append_45 ?_
            refine lv_topi (fun z_30 ez_30 => ?_)
            have hTo := hT
            refine T_put (ci := 9) (v := .int z_30) (ty := .int) (t := tI) (C := RX9) (T := TX9) (N := 11) hx hb hts inw_X9_append_9 tyX9 tyX9_ok nmX9 hown hK hP hD hS hT 1 rfl rfl 5 (by decide) (hts (.fieldLink RX9 124 "VatHouse" "tapeLength" "I") (by decide +kernel)) (fun _ h9 => h9) rfl (by decide +kernel) rfl rfl rfl ⟨_, rfl⟩ dX9_append_46 (fun f_31 H locs hP hD hS hT hE1 hrd_32 hup_33 => ?_)
            have hF := Fr.put (a := h0) (ci := 9) hF hE ((hE1 h0 (hT.at 1 rfl).1).2.symm.trans (hT.at 1 rfl).2) (by decide) hrd_32 hup_33
            have hE := hE.tr hE1
            have hk_34 : rd f_31 h0 5 = .int z_30 := (hrd_32 h0 5).trans (if_pos ⟨rfl, rfl⟩)
            refine lv_iinc (v := (sh + (-8))) (lv' := [(2, .int (sh + (-8))), (0, .ref h0), (1, .int fb)]) hx hb dX9_append_49 hl (k := 0) rfl rfl (by decide) rfl (fun ls hl => ?_)
            refine lv_goto (tgt := 3) hx hb dX9_append_52 (by decide) ?_
            exact ih (sh + (-8)) z_30 _ _ _ _ _ (hm.nx c_1 (ap_c c_13 ez_30)) hk_34 hP hD hS (hT.sub [1] rfl) hE hF (lv_sub hl [0, 1, 2] rfl)
  exact lp 5 24 tl _ _ _ _ _ (⟨0, Or.inl ⟨rfl, rfl⟩, by omega, fun _ _ => by omega⟩) hm_tl hP hD hS (hT.sub [0] rfl) hE hF (lv_sub hl [0, 1, 2] rfl)

theorem gt80 {t : Int32} (h : ¬ t ≤ 1480) : 1480 < t.toInt := by
  rw [Int32.le_iff_toInt_le] at h
  have e : (1480 : Int32).toInt = 1480 := by decide
  omega
theorem le80 {t : Int32} (h : t ≤ 1480) : t.toInt ≤ 1480 := by
  rw [Int32.le_iff_toInt_le] at h
  have e : (1480 : Int32).toInt = 1480 := by decide
  omega

abbrev rm_X9_put : Room := { frames := 1, cells := 0, slots := 0, locals := 22 }
theorem inw_X9_put_9 : ∀ w ∈ wsX90, w ∈ wsX9_put := by decide +kernel
set_option maxHeartbeats 800000 in
set_option maxRecDepth 100000 in
theorem t_X9_put (l : Launch) (dC : Nat → ClassId) (dI : Nat → Nat → Nat) (sa : Nat → Nat) (hlt : l.stackTraces = false) (g : Nat → Nat) (L : List Nat) (f : Nat → va_E) (h0 : Nat) (a : Int32) (b : Int32) (cq : Int32) (dq : Int32) (eq : Int32) (tl : Int32) (sz : Nat) (hT : TP g L f [(h0, (0, 9, 0))]) (hm_tl : rd f h0 5 = .int tl) : KC l dC dI sa g yX9_put wsX9_put rm_X9_put [.ref h0, .int a, .int b, .int cq, .int dq, .int eq] L f sz (fun r L' f' => (∃ z : Int32, r = some (.int z)) ∧ Fr [(9, 5), (100, 1500)] L f f' ∧ (∃ tl' : Int32, rd f' h0 5 = .int tl' ∧ (0 ≤ tl.toInt → tl.toInt ≤ 1500 → (1480 < tl.toInt ∧ r = some (.int (-1)) ∧ tl' = tl) ∨ (tl.toInt ≤ 1480 ∧ r = some (.int tl') ∧ tl'.toInt = tl.toInt + 20)))) 0 0 := by
  refine CT.start (cc := cX9_put) (maxL := 6) (ret := (some .int)) (by decide) rfl (Nat.le_of_ble_eq_true rfl) ?_
  intro p e s m below meth c ls hst hP hK hD hev hS hl
  obtain ⟨hx, hb, hr, hml, hts, hown, hlocks, hin⟩ := hst
  have hown : s.vm.findClass RX9 = some m.cls := hown
  have hin : meth.name = yX9_put.name := hin
  have hA : ∀ q : Nat, s.heap.size ≤ q → va_A (va_pl L f) s.heap.size q := fun _ h => Or.inr h
  have hE : Ext L f L f := Ext.rf
  have hF : Fr [(9, 5), (100, 1500)] L f f := Fr.rf
  have hl : lv_has ls 6 [(0, .ref h0), (1, .int a), (2, .int b), (3, .int cq), (4, .int dq), (5, .int eq)] := hl
  refine lv_aload_n hx hb dX9_put_0 rfl (lv_at hl 0 rfl) ?_
  refine T_get (ci := 9) (C := RX9) (T := TX9) (N := 11) (t := tI) hx hb hts inw_X9_put_9 hown hK hP hT 0 rfl rfl 5 (by decide) (hts (.fieldLink RX9 124 "VatHouse" "tapeLength" "I") (by decide +kernel)) (fun _ h9 => h9) rfl dX9_put_1 (fun v_3 hv_1 hr_2 => ?_)
  obtain rfl : v_3 = .int tl := hr_2.symm.trans hm_tl
  refine lv_aload_n hx hb dX9_put_4 rfl (lv_at hl 0 rfl) ?_
  refine T_get (ci := 9) (C := RX9) (T := TX9) (N := 11) (t := (1, 1, g 1, 1500)) hx hb hts inw_X9_put_9 hown hK hP hT 0 rfl rfl 4 (by decide) (hts (.fieldLink RX9 22 "VatHouse" "tape" "[B") (by decide +kernel)) (fun _ h9 => h9) rfl dX9_put_5 (fun v_6 hv_4 hr_5 => ?_)
  obtain ⟨b_7, rfl, hb9⟩ := hv_4
  have hT := hT.add hb9
  refine T_alen hx hb hK hP hT 0 1 rfl rfl (v := 1500) rfl dX9_put_8 ?_
  refine lv_bipush (v := 20) hx hb dX9_put_9 (by decide) ?_
  refine lv_isub hx hb dX9_put_11 ?_
  refine lv_topi (fun z_8 ez_8 => ?_)
  obtain rfl : z_8 = 1480 := ez_8.trans (by decide)
  refine lv_icmp_le (tgt := 17) hx hb dX9_put_12 (by decide) (fun c_9 => ?_) (fun c_9 => ?_)
  · refine lv_aload_n hx hb dX9_put_17 rfl (lv_at hl 0 rfl) ?_
    refine lv_iload_n hx hb dX9_put_18 rfl (lv_at hl 1 rfl) ?_
    have hTo := hT
    refine K_V ⟨hx, hb, hml, hown, hts⟩ (t_X9_append l dC dI sa hlt g _ _ h0 a tl _ (hT.sub [1] rfl)  hm_tl ) (cwV 1 hts gX9_put_X9_append rfl rfl rfl (by decide +kernel) ⟨Nat.le_of_ble_eq_true rfl, Nat.le_of_ble_eq_true rfl⟩) hP hD hK hS hA hev hT 1 9 rfl rfl rfl rfl hl.1 rfl (Nat.le_of_ble_eq_true rfl) dX9_put_19 ⟨Nat.le_of_ble_eq_true rfl, Nat.le_of_ble_eq_true rfl⟩ (fun r L_10 f_11 H locs hw_12 hP hD hS hT hE1 => ?_)
    have hF := Fr.call hF hE hw_12.2.1 (by decide)
    have hE := hE.tr hE1
    obtain ⟨rfl, hw_12⟩ := hw_12
    obtain ⟨hfr_13, tl_14, hk_15, hrel_16⟩ := hw_12
    refine W.eq (g2 := F0 m 22 ls []) rfl ?_
    refine lv_aload_n hx hb dX9_put_22 rfl (lv_at hl 0 rfl) ?_
    refine lv_iload_n hx hb dX9_put_23 rfl (lv_at hl 2 rfl) ?_
    have hTo := hT
    refine K_V ⟨hx, hb, hml, hown, hts⟩ (t_X9_append l dC dI sa hlt g _ _ h0 b tl_14 _ (hT.sub [1] rfl)  hk_15 ) (cwV 1 hts gX9_put_X9_append rfl rfl rfl (by decide +kernel) ⟨Nat.le_of_ble_eq_true rfl, Nat.le_of_ble_eq_true rfl⟩) hP hD hK hS hA hev hT 1 9 rfl rfl rfl rfl hl.1 rfl (Nat.le_of_ble_eq_true rfl) dX9_put_24 ⟨Nat.le_of_ble_eq_true rfl, Nat.le_of_ble_eq_true rfl⟩ (fun r L_18 f_19 H locs hw_20 hP hD hS hT hE1 => ?_)
    have hF := Fr.call hF hE hw_20.2.1 (by decide)
    have hE := hE.tr hE1
    obtain ⟨rfl, hw_20⟩ := hw_20
    obtain ⟨hfr_21, tl_22, hk_23, hrel_24⟩ := hw_20
    refine W.eq (g2 := F0 m 27 ls []) rfl ?_
    refine lv_aload_n hx hb dX9_put_27 rfl (lv_at hl 0 rfl) ?_
    refine lv_iload_n hx hb dX9_put_28 rfl (lv_at hl 3 rfl) ?_
    have hTo := hT
    refine K_V ⟨hx, hb, hml, hown, hts⟩ (t_X9_append l dC dI sa hlt g _ _ h0 cq tl_22 _ (hT.sub [1] rfl)  hk_23 ) (cwV 1 hts gX9_put_X9_append rfl rfl rfl (by decide +kernel) ⟨Nat.le_of_ble_eq_true rfl, Nat.le_of_ble_eq_true rfl⟩) hP hD hK hS hA hev hT 1 9 rfl rfl rfl rfl hl.1 rfl (Nat.le_of_ble_eq_true rfl) dX9_put_29 ⟨Nat.le_of_ble_eq_true rfl, Nat.le_of_ble_eq_true rfl⟩ (fun r L_26 f_27 H locs hw_28 hP hD hS hT hE1 => ?_)
    have hF := Fr.call hF hE hw_28.2.1 (by decide)
    have hE := hE.tr hE1
    obtain ⟨rfl, hw_28⟩ := hw_28
    obtain ⟨hfr_29, tl_30, hk_31, hrel_32⟩ := hw_28
    refine W.eq (g2 := F0 m 32 ls []) rfl ?_
    refine lv_aload_n hx hb dX9_put_32 rfl (lv_at hl 0 rfl) ?_
    refine lv_iload hx hb dX9_put_33 (lv_at hl 4 rfl) ?_
    have hTo := hT
    refine K_V ⟨hx, hb, hml, hown, hts⟩ (t_X9_append l dC dI sa hlt g _ _ h0 dq tl_30 _ (hT.sub [1] rfl)  hk_31 ) (cwV 1 hts gX9_put_X9_append rfl rfl rfl (by decide +kernel) ⟨Nat.le_of_ble_eq_true rfl, Nat.le_of_ble_eq_true rfl⟩) hP hD hK hS hA hev hT 1 9 rfl rfl rfl rfl hl.1 rfl (Nat.le_of_ble_eq_true rfl) dX9_put_35 ⟨Nat.le_of_ble_eq_true rfl, Nat.le_of_ble_eq_true rfl⟩ (fun r L_34 f_35 H locs hw_36 hP hD hS hT hE1 => ?_)
    have hF := Fr.call hF hE hw_36.2.1 (by decide)
    have hE := hE.tr hE1
    obtain ⟨rfl, hw_36⟩ := hw_36
    obtain ⟨hfr_37, tl_38, hk_39, hrel_40⟩ := hw_36
    refine W.eq (g2 := F0 m 38 ls []) rfl ?_
    refine lv_aload_n hx hb dX9_put_38 rfl (lv_at hl 0 rfl) ?_
    refine lv_iload hx hb dX9_put_39 (lv_at hl 5 rfl) ?_
    have hTo := hT
    refine K_V ⟨hx, hb, hml, hown, hts⟩ (t_X9_append l dC dI sa hlt g _ _ h0 eq tl_38 _ (hT.sub [1] rfl)  hk_39 ) (cwV 1 hts gX9_put_X9_append rfl rfl rfl (by decide +kernel) ⟨Nat.le_of_ble_eq_true rfl, Nat.le_of_ble_eq_true rfl⟩) hP hD hK hS hA hev hT 1 9 rfl rfl rfl rfl hl.1 rfl (Nat.le_of_ble_eq_true rfl) dX9_put_41 ⟨Nat.le_of_ble_eq_true rfl, Nat.le_of_ble_eq_true rfl⟩ (fun r L_42 f_43 H locs hw_44 hP hD hS hT hE1 => ?_)
    have hF := Fr.call hF hE hw_44.2.1 (by decide)
    have hE := hE.tr hE1
    obtain ⟨rfl, hw_44⟩ := hw_44
    obtain ⟨hfr_45, tl_46, hk_47, hrel_48⟩ := hw_44
    refine W.eq (g2 := F0 m 44 ls []) rfl ?_
    refine lv_aload_n hx hb dX9_put_44 rfl (lv_at hl 0 rfl) ?_
    refine T_get (ci := 9) (C := RX9) (T := TX9) (N := 11) (t := tI) hx hb hts inw_X9_put_9 hown hK hP hT 1 rfl rfl 5 (by decide) (hts (.fieldLink RX9 124 "VatHouse" "tapeLength" "I") (by decide +kernel)) (fun _ h9 => h9) rfl dX9_put_45 (fun v_52 hv_50 hr_51 => ?_)
    obtain rfl : v_52 = .int tl_46 := hr_51.symm.trans hk_47
    exact K_i hx hb hr hlocks hP hD hK hS hT hE ⟨⟨_, rfl⟩, hF, _, hk_47, fun a9 _ => Or.inr ⟨le80 c_9, rfl, by have h80 := le80 c_9; omega⟩⟩ (Nat.le_of_ble_eq_true rfl) (Nat.le_of_ble_eq_true rfl) dX9_put_48
  · refine lv_iconst (v := (-1)) hx hb dX9_put_15 (by decide) ?_
    exact K_i hx hb hr hlocks hP hD hK hS hT hE ⟨⟨_, rfl⟩, hF, _, hm_tl, fun _ _ => Or.inl ⟨gt80 c_9, rfl, rfl⟩⟩ (Nat.le_of_ble_eq_true rfl) (Nat.le_of_ble_eq_true rfl) dX9_put_16

abbrev rm_X9_cloth : Room := { frames := 2, cells := 1, slots := 8, locals := 34 }
theorem inw_X9_cloth_0 : ∀ w ∈ wsX00, w ∈ wsX9_cloth := by decide +kernel
theorem inw_X9_cloth_9 : ∀ w ∈ wsX90, w ∈ wsX9_cloth := by decide +kernel
set_option maxHeartbeats 800000 in
set_option maxRecDepth 100000 in
theorem t_X9_cloth (l : Launch) (dC : Nat → ClassId) (dI : Nat → Nat → Nat) (sa : Nat → Nat) (hlt : l.stackTraces = false) (g : Nat → Nat) (L : List Nat) (f : Nat → va_E) (h0 : Nat) (a : Int32) (mk : Int32) (sz : Nat) (hT : TP g L f [(h0, (0, 9, 0))]) (hm_mk : rd f h0 2 = .int mk) : KC l dC dI sa g yX9_cloth wsX9_cloth rm_X9_cloth [.ref h0, .int a] L f sz (fun r L' f' => (∃ z : Int32, r = some (.int z)) ∧ Fr [(0, 0), (0, 1), (0, 2), (0, 3), (0, 4), (0, 5), (0, 6), (0, 7), (9, 2), (200, 30)] L f f' ∧ (∃ mk' : Int32, rd f' h0 2 = .int mk' ∧ (((mk < 0 ∨ 30 ≤ mk ∨ a < 1 ∨ ¬ a ≤ 50) ∧ mk' = mk ∧ r = some (.int (-1))) ∨ (¬ mk < 0 ∧ ¬ 30 ≤ mk ∧ ¬ a < 1 ∧ a ≤ 50 ∧ mk' = mk + 1 ∧ r = some (.int (mk + 1 - 1)))))) 1 8 := by
  refine CT.start (cc := cX9_cloth) (maxL := 2) (ret := (some .int)) (by decide) rfl (Nat.le_of_ble_eq_true rfl) ?_
  intro p e s m below meth c ls hst hP hK hD hev hS hl
  obtain ⟨hx, hb, hr, hml, hts, hown, hlocks, hin⟩ := hst
  have hown : s.vm.findClass RX9 = some m.cls := hown
  have hin : meth.name = yX9_cloth.name := hin
  have hA : ∀ q : Nat, s.heap.size ≤ q → va_A (va_pl L f) s.heap.size q := fun _ h => Or.inr h
  have hE : Ext L f L f := Ext.rf
  have hF : Fr [(0, 0), (0, 1), (0, 2), (0, 3), (0, 4), (0, 5), (0, 6), (0, 7), (9, 2), (200, 30)] L f f := Fr.rf
  have hl : lv_has ls 2 [(0, .ref h0), (1, .int a)] := hl
  refine lv_aload_n hx hb dX9_cloth_0 rfl (lv_at hl 0 rfl) ?_
  refine T_get (ci := 9) (C := RX9) (T := TX9) (N := 11) (t := tI) hx hb hts inw_X9_cloth_9 hown hK hP hT 0 rfl rfl 2 (by decide) (hts (.fieldLink RX9 92 "VatHouse" "clothsMade" "I") (by decide +kernel)) (fun _ h9 => h9) rfl dX9_cloth_1 (fun v_3 hv_1 hr_2 => ?_)
  obtain rfl : v_3 = .int mk := hr_2.symm.trans hm_mk
  refine lv_if_lt (tgt := 30) hx hb dX9_cloth_4 (by decide) (fun c_4 => ?_) (fun c_4 => ?_)
  · refine lv_iconst (v := (-1)) hx hb dX9_cloth_30 (by decide) ?_
    exact K_i hx hb hr hlocks hP hD hK hS hT hE ⟨⟨_, rfl⟩, hF, _, hm_mk, Or.inl ⟨Or.inl c_4, rfl, rfl⟩⟩ (Nat.le_of_ble_eq_true rfl) (Nat.le_of_ble_eq_true rfl) dX9_cloth_31
  · refine lv_aload_n hx hb dX9_cloth_7 rfl (lv_at hl 0 rfl) ?_
    refine T_get (ci := 9) (C := RX9) (T := TX9) (N := 11) (t := tI) hx hb hts inw_X9_cloth_9 hown hK hP hT 0 rfl rfl 2 (by decide) (hts (.fieldLink RX9 92 "VatHouse" "clothsMade" "I") (by decide +kernel)) (fun _ h9 => h9) rfl dX9_cloth_8 (fun v_7 hv_5 hr_6 => ?_)
    obtain rfl : v_7 = .int mk := hr_6.symm.trans hm_mk
    refine lv_aload_n hx hb dX9_cloth_11 rfl (lv_at hl 0 rfl) ?_
    refine T_get (ci := 9) (C := RX9) (T := TX9) (N := 11) (t := (1, 2, g 3, 30)) hx hb hts inw_X9_cloth_9 hown hK hP hT 0 rfl rfl 1 (by decide) (hts (.fieldLink RX9 18 "VatHouse" "cloths" "[LVatHouse$Cloth;") (by decide +kernel)) (fun _ h9 => h9) rfl dX9_cloth_12 (fun v_10 hv_8 hr_9 => ?_)
    obtain ⟨b_11, rfl, hb9⟩ := hv_8
    have hT := hT.add hb9
    refine T_alen hx hb hK hP hT 0 3 rfl rfl (v := 30) rfl dX9_cloth_15 ?_
    refine lv_icmp_ge (tgt := 30) hx hb dX9_cloth_16 (by decide) (fun c_12 => ?_) (fun c_12 => ?_)
    · refine lv_iconst (v := (-1)) hx hb dX9_cloth_30 (by decide) ?_
      exact K_i hx hb hr hlocks hP hD hK hS hT hE ⟨⟨_, rfl⟩, hF, _, hm_mk, Or.inl ⟨Or.inr (Or.inl c_12), rfl, rfl⟩⟩ (Nat.le_of_ble_eq_true rfl) (Nat.le_of_ble_eq_true rfl) dX9_cloth_31
    · refine lv_iload_n hx hb dX9_cloth_19 rfl (lv_at hl 1 rfl) ?_
      refine lv_iconst (v := 1) hx hb dX9_cloth_20 (by decide) ?_
      refine lv_icmp_lt (tgt := 30) hx hb dX9_cloth_21 (by decide) (fun c_13 => ?_) (fun c_13 => ?_)
      · refine lv_iconst (v := (-1)) hx hb dX9_cloth_30 (by decide) ?_
        exact K_i hx hb hr hlocks hP hD hK hS hT hE ⟨⟨_, rfl⟩, hF, _, hm_mk, Or.inl ⟨Or.inr (Or.inr (Or.inl c_13)), rfl, rfl⟩⟩ (Nat.le_of_ble_eq_true rfl) (Nat.le_of_ble_eq_true rfl) dX9_cloth_31
      · refine lv_iload_n hx hb dX9_cloth_24 rfl (lv_at hl 1 rfl) ?_
        refine lv_bipush (v := 50) hx hb dX9_cloth_25 (by decide) ?_
        refine lv_icmp_le (tgt := 32) hx hb dX9_cloth_27 (by decide) (fun c_14 => ?_) (fun c_14 => ?_)
        · refine lv_aload_n hx hb dX9_cloth_32 rfl (lv_at hl 0 rfl) ?_
          refine T_get (ci := 9) (C := RX9) (T := TX9) (N := 11) (t := (1, 2, g 3, 30)) hx hb hts inw_X9_cloth_9 hown hK hP hT 1 rfl rfl 1 (by decide) (hts (.fieldLink RX9 18 "VatHouse" "cloths" "[LVatHouse$Cloth;") (by decide +kernel)) (fun _ h9 => h9) rfl dX9_cloth_33 (fun v_17 hv_15 hr_16 => ?_)
          obtain rfl : v_17 = .ref b_11 := hr_16.symm.trans hr_9
          refine lv_aload_n hx hb dX9_cloth_36 rfl (lv_at hl 0 rfl) ?_
          refine T_get (ci := 9) (C := RX9) (T := TX9) (N := 11) (t := tI) hx hb hts inw_X9_cloth_9 hown hK hP hT 1 rfl rfl 2 (by decide) (hts (.fieldLink RX9 92 "VatHouse" "clothsMade" "I") (by decide +kernel)) (fun _ h9 => h9) rfl dX9_cloth_37 (fun v_20 hv_18 hr_19 => ?_)
          obtain rfl : v_20 = .int mk := hr_19.symm.trans hm_mk
          have hTo := hT
          refine T_new (ci := 0) (fs := [.int 0, .int 0, .int 0, .int 0, .int 0, .int 0, .int 0, .int 0]) (C := RX0) (T := TX0) (N := 8) hx hb hts inw_X9_cloth_0 tyX0 tyX0_ok hown (hts (.classLink RX9 16 RX0) (by decide +kernel)) (hts (.instantiable RX0 8) (by decide +kernel)) (hts (.initialized RX0) (by decide +kernel)) hK hP hD hS hA hT rfl nfX0 (okn_0 g) (Nat.le_of_ble_eq_true rfl) (Nat.le_of_ble_eq_true rfl) dX9_cloth_40 (fun q_21 L_22 f_23 H hq_24 hL_25 hP hD hS hT hE1 hrd_26 hrq_27 hup => ?_)
          have hF := Fr.new hF hE hq_24 hrd_26 hup
          have hE := hE.tr hE1
          have hk_28 := (hrd_26 h0 2 (fun h9 => hq_24 (h9 ▸ (hTo.at 1 rfl).1))).trans hm_mk
          refine lv_dup hx hb dX9_cloth_43 rfl ?_
          refine lv_aload_n hx hb dX9_cloth_44 rfl (lv_at hl 0 rfl) ?_
          refine T_get (ci := 9) (C := RX9) (T := TX9) (N := 11) (t := tI) hx hb hts inw_X9_cloth_9 hown hK hP hT 2 rfl rfl 2 (by decide) (hts (.fieldLink RX9 92 "VatHouse" "clothsMade" "I") (by decide +kernel)) (fun _ h9 => h9) rfl dX9_cloth_45 (fun v_31 hv_29 hr_30 => ?_)
          obtain rfl : v_31 = .int mk := hr_30.symm.trans hk_28
          refine lv_iload_n hx hb dX9_cloth_48 rfl (lv_at hl 1 rfl) ?_
          have hTo := hT
          refine K_I ⟨hx, hb, hml, hown, hts⟩ (t_X0_init l dC dI sa hlt g _ _ q_21 mk a _ (hT.sub [0] rfl)  ) (cwI 2 hts gX9_cloth_X0_init rfl rfl rfl (hts (.initialized RX0) (by decide +kernel)) (hts (.methodLink RX9 95 yX0_init) (by decide +kernel)) (hts (.instanceMethod yX0_init) (by decide +kernel)) rfl (by decide +kernel) ⟨Nat.le_of_ble_eq_true rfl, Nat.le_of_ble_eq_true rfl⟩) hP hD hK hS hA hev hT rfl hl.1 rfl (Nat.le_of_ble_eq_true rfl) dX9_cloth_49 ⟨Nat.le_of_ble_eq_true rfl, Nat.le_of_ble_eq_true rfl⟩ (fun r L_32 f_33 H locs hw_34 hP hD hS hT hE1 => ?_)
          have hF := Fr.call hF hE hw_34.2 (by decide)
          have hE := hE.tr hE1
          obtain ⟨rfl, hw_34⟩ := hw_34
          have hk_35 : rd f_33 h0 2 = .int mk := (hw_34.1 h0 (hTo.at 2 rfl).1 9 (hTo.at 2 rfl).2 2 (by decide)).trans hk_28
          refine W.eq (g2 := F0 m 52 ls [.ref q_21, .int mk, .ref b_11]) rfl ?_
          have hTo := hT
          refine T_cast hx hb hK hP hD hS hT 1 3 0 rfl rfl rfl rfl (vin 30 (by decide) rfl (by assumption) (by assumption)) dX9_cloth_52 (fun f_36 H locs hP hD hS hT hE1 hrd_37 hup_38 hia_39 => ?_)
          have hF := Fr.arr (a := b_11) hF hE ((hE1 b_11 (hT.at 1 rfl).1).2.symm.trans (hT.at 1 rfl).2) (by decide) hrd_37 hup_38
          have hE := hE.tr hE1
          have hk_40 : rd f_36 h0 2 = .int mk := (hrd_37 h0 2).trans hk_35
          refine lv_aload_n hx hb dX9_cloth_53 rfl (lv_at hl 0 rfl) ?_
          refine lv_dup hx hb dX9_cloth_54 rfl ?_
          refine T_get (ci := 9) (C := RX9) (T := TX9) (N := 11) (t := tI) hx hb hts inw_X9_cloth_9 hown hK hP hT 2 rfl rfl 2 (by decide) (hts (.fieldLink RX9 92 "VatHouse" "clothsMade" "I") (by decide +kernel)) (fun _ h9 => h9) rfl dX9_cloth_55 (fun v_43 hv_41 hr_42 => ?_)
          obtain rfl : v_43 = .int mk := hr_42.symm.trans hk_40
          refine lv_iconst (v := 1) hx hb dX9_cloth_58 (by decide) ?_
          refine lv_iadd hx hb dX9_cloth_59 ?_
          refine lv_topi (fun z_44 ez_44 => ?_)
          have hTo := hT
          refine T_put (ci := 9) (v := .int z_44) (ty := .int) (t := tI) (C := RX9) (T := TX9) (N := 11) hx hb hts inw_X9_cloth_9 tyX9 tyX9_ok nmX9 hown hK hP hD hS hT 2 rfl rfl 2 (by decide) (hts (.fieldLink RX9 92 "VatHouse" "clothsMade" "I") (by decide +kernel)) (fun _ h9 => h9) rfl (by decide +kernel) rfl rfl rfl ⟨_, rfl⟩ dX9_cloth_60 (fun f_45 H locs hP hD hS hT hE1 hrd_46 hup_47 => ?_)
          have hF := Fr.put (a := h0) (ci := 9) hF hE ((hE1 h0 (hT.at 2 rfl).1).2.symm.trans (hT.at 2 rfl).2) (by decide) hrd_46 hup_47
          have hE := hE.tr hE1
          have hk_48 : rd f_45 h0 2 = .int z_44 := (hrd_46 h0 2).trans (if_pos ⟨rfl, rfl⟩)
          refine lv_aload_n hx hb dX9_cloth_63 rfl (lv_at hl 0 rfl) ?_
          refine T_get (ci := 9) (C := RX9) (T := TX9) (N := 11) (t := tI) hx hb hts inw_X9_cloth_9 hown hK hP hT 2 rfl rfl 2 (by decide) (hts (.fieldLink RX9 92 "VatHouse" "clothsMade" "I") (by decide +kernel)) (fun _ h9 => h9) rfl dX9_cloth_64 (fun v_51 hv_49 hr_50 => ?_)
          obtain rfl : v_51 = .int z_44 := hr_50.symm.trans hk_48
          refine lv_iconst (v := 1) hx hb dX9_cloth_67 (by decide) ?_
          refine lv_isub hx hb dX9_cloth_68 ?_
          refine lv_topi (fun z_52 ez_52 => ?_)
          exact K_i hx hb hr hlocks hP hD hK hS hT hE ⟨⟨_, rfl⟩, hF, _, hk_48, Or.inr ⟨c_4, c_12, c_13, c_14, ez_44, by rw [ez_52, ez_44]⟩⟩ (Nat.le_of_ble_eq_true rfl) (Nat.le_of_ble_eq_true rfl) dX9_cloth_69
        · refine lv_iconst (v := (-1)) hx hb dX9_cloth_30 (by decide) ?_
          exact K_i hx hb hr hlocks hP hD hK hS hT hE ⟨⟨_, rfl⟩, hF, _, hm_mk, Or.inl ⟨Or.inr (Or.inr (Or.inr c_14)), rfl, rfl⟩⟩ (Nat.le_of_ble_eq_true rfl) (Nat.le_of_ble_eq_true rfl) dX9_cloth_31

abbrev rm_X9_matching : Room := { frames := 7, cells := 2, slots := 12, locals := 104 }
theorem inw_X9_matching_9 : ∀ w ∈ wsX90, w ∈ wsX9_matching := by decide +kernel
set_option maxHeartbeats 800000 in
set_option maxRecDepth 100000 in
theorem t_X9_matching (l : Launch) (dC : Nat → ClassId) (dI : Nat → Nat → Nat) (sa : Nat → Nat) (hlt : l.stackTraces = false) (g : Nat → Nat) (L : List Nat) (f : Nat → va_E) (h0 : Nat) (a : Int32) (b : Int32) (sz : Nat) (hT : TP g L f [(h0, (0, 9, 0))]) : KX l dC dI sa g yX9_matching wsX9_matching rm_X9_matching [.ref h0, .int a, .int b] L f sz (fun r L' f' => (∃ z : Int32, r = some (.int z)) ∧ Fr [] L f f') (fun E L' f' => (E = NSE ∨ E = IAE) ∧ Fr [] L f f') 2 12 := by
  refine KX.start (cc := cX9_matching) (maxL := 7) (ret := (some .int)) (by decide) rfl (Nat.le_of_ble_eq_true rfl) ?_
  intro p e s m below meth c ls hst hno hP hK hD hev hS hl
  obtain ⟨hx, hb, hr, hml, hts, hown, hlocks, hin⟩ := hst
  have hown : s.vm.findClass RX9 = some m.cls := hown
  have hin : meth.name = yX9_matching.name := hin
  have hA : ∀ q : Nat, s.heap.size ≤ q → va_A (va_pl L f) s.heap.size q := fun _ h => Or.inr h
  have hE : Ext L f L f := Ext.rf
  have hF : Fr [] L f f := Fr.rf
  have hl : lv_has ls 7 [(0, .ref h0), (1, .int a), (2, .int b)] := hl
  refine lv_aload_n hx hb dX9_matching_0 rfl (lv_at hl 0 rfl) ?_
  refine lv_iload_n hx hb dX9_matching_1 rfl (lv_at hl 1 rfl) ?_
  refine K_VX ⟨hx, hb, hml, hown, hts⟩ (t_X9_clothAt l dC dI sa hlt g _ _ h0 a _ (hT.sub [0] rfl)  ) (cwV 1 hts gX9_matching_X9_clothAt rfl rfl rfl (by decide +kernel) ⟨Nat.le_of_ble_eq_true rfl, Nat.le_of_ble_eq_true rfl⟩) hP hD hK hS hA hev hT 0 9 rfl rfl rfl rfl hl.1 rfl (Nat.le_of_ble_eq_true rfl) dX9_matching_2 ⟨Nat.le_of_ble_eq_true rfl, Nat.le_of_ble_eq_true rfl⟩ (fun E ce q9 L9 f9 H locs hpx hP hD hS hT hE1 hce hcv hcl => ?_) (fun r L_1 f_2 H locs hw_3 hP hD hS hT hE1 => ?_)
  · have hF := Fr.call hF hE hpx.2 (by decide)
    have hE := hE.tr hE1
    exact K_out hno hlocks ⟨Or.inl hpx.1, hF⟩ hP hD hK hS hT hE hce hcv hcl (Nat.le_of_ble_eq_true rfl) (Nat.le_of_ble_eq_true rfl)
  have hF := Fr.call hF hE hw_3.2 (by decide)
  have hE := hE.tr hE1
  obtain ⟨⟨v_4, rfl, hv9⟩, hw_3⟩ := hw_3
  obtain ⟨b_5, rfl, hb9⟩ := hv9
  have hT := hT.add hb9
  refine W.eq (g2 := F0 m 5 ls [.ref b_5]) rfl ?_
  refine lv_astore_n (lv' := [(3, .ref b_5), (0, .ref h0), (1, .int a), (2, .int b)]) hx hb dX9_matching_5 rfl hl (by decide) rfl (fun ls hl => ?_)
  refine lv_iload_n hx hb dX9_matching_6 rfl (lv_at hl 3 rfl) ?_
  refine lv_if_lt (tgt := 20) hx hb dX9_matching_7 (by decide) (fun c_6 => ?_) (fun c_6 => ?_)
  · refine lv_iconst (v := 0) hx hb dX9_matching_20 (by decide) ?_
    refine K_SX ⟨hx, hb, hml, hown, hts⟩ (t_X9_demand l dC dI sa hlt g _ _ 0 _ (hT.sub [] rfl)  ) (va_cwS 1 hts gX9_matching_X9_demand rfl rfl rfl (by decide +kernel) ⟨Nat.le_of_ble_eq_true rfl, Nat.le_of_ble_eq_true rfl⟩) hP hD hK hS hA hev hT rfl hl.1 rfl (Nat.le_of_ble_eq_true rfl) dX9_matching_21 ⟨Nat.le_of_ble_eq_true rfl, Nat.le_of_ble_eq_true rfl⟩ (fun E ce q9 L9 f9 H locs hpx hP hD hS hT hE1 hce hcv hcl => ?_) (fun r L_7 f_8 H locs hw_9 hP hD hS hT hE1 => ?_)
    · have hF := Fr.call hF hE hpx.2 (by decide)
      have hE := hE.tr hE1
      exact K_out hno hlocks ⟨Or.inr hpx.1, hF⟩ hP hD hK hS hT hE hce hcv hcl (Nat.le_of_ble_eq_true rfl) (Nat.le_of_ble_eq_true rfl)
    have hF := Fr.call hF hE hw_9.2 (by decide)
    have hE := hE.tr hE1
    obtain ⟨rfl, hw_9⟩ := hw_9
    refine W.eq (g2 := F0 m 24 ls []) rfl ?_
    refine lv_iconst (v := 0) hx hb dX9_matching_24 (by decide) ?_
    refine lv_istore (lv' := [(4, .int 0), (3, .ref b_5), (0, .ref h0), (1, .int a), (2, .int b)]) hx hb dX9_matching_25 hl (by decide) rfl (fun ls hl => ?_)
    refine lv_iconst (v := 0) hx hb dX9_matching_27 (by decide) ?_
    refine lv_istore (lv' := [(5, .int 0), (4, .int 0), (3, .ref b_5), (0, .ref h0), (1, .int a), (2, .int b)]) hx hb dX9_matching_28 hl (by decide) rfl (fun ls hl => ?_)
    have lp : ∀ (n : Nat) (bi : Int32) (ii : Int32) (L1 : List Nat) (f1 : Nat → va_E) (H : Heap) (locs : List Loc) (ls : Array Slot), (∃ a : Nat, ii = nI a ∧ a ≤ 30 ∧ 30 < a + n) → va_P (dC, dI) vwCl (va_pl L1 f1) H → va_D (va_A (va_pl L f) s.heap.size) (va_pl L1 f1) → va_S (va_A (va_pl L f) s.heap.size) s.heap H locs → TP g L1 f1 [(b_5, (0, 0, 0)), (h0, (0, 9, 0))] → Ext L f L1 f1 → Fr [] L f f1 → lv_has ls 7 [(4, .int bi), (5, .int ii), (3, .ref b_5), (0, .ref h0), (1, .int a), (2, .int b)] → W p l e rm_X9_matching s m [.ref h0, .int a, .int b].toArray below meth c H locs 2 12 (vx_MQ below (Qg (kpost g L f (fun r L' f' => (∃ z : Int32, r = some (.int z)) ∧ Fr [] L f f')) (fun (u : PL) t => QW dC dI (va_A (va_pl L f) s.heap.size) (va_pl u.1 u.2) [] t) (va_A (va_pl L f) s.heap.size)) (XK dC dI g L f s.heap.size (fun E L' f' => (E = NSE ∨ E = IAE) ∧ Fr [] L f f')) [.ref h0, .int a, .int b].toArray s (2) (12) (va_A (va_pl L f) s.heap.size)) (F0 m 30 ls []) := by
      intro n
      induction n with
      | zero => intro bi ii L1 f1 H locs ls hm  hP hD hS hT hE hF hl; exact absurd hm (by rintro ⟨a, -, h1, h2⟩; omega)
      | succ n ih =>
        intro bi ii L1 f1 H locs ls hm  hP hD hS hT hE hF hl
        refine lv_iload hx hb dX9_matching_30 (lv_at hl 1 rfl) ?_
        refine lv_aload_n hx hb dX9_matching_32 rfl (lv_at hl 3 rfl) ?_
        refine T_get (ci := 9) (C := RX9) (T := TX9) (N := 11) (t := tI) hx hb hts inw_X9_matching_9 hown hK hP hT 1 rfl rfl 2 (by decide) (hts (.fieldLink RX9 92 "VatHouse" "clothsMade" "I") (by decide +kernel)) (fun _ h9 => h9) rfl dX9_matching_33 (fun v_12 hv_10 hr_11 => ?_)
        obtain ⟨z_13, rfl⟩ := hv_10
        refine lv_icmp_ge (tgt := 94) hx hb dX9_matching_36 (by decide) (fun c_14 => ?_) (fun c_14 => ?_)
        · refine lv_iload hx hb dX9_matching_94 (lv_at hl 0 rfl) ?_
          refine vx_ret ?_
          exact K_i hx hb hr hlocks hP hD hK hS hT hE ⟨⟨_, rfl⟩, hF⟩ (Nat.le_of_ble_eq_true rfl) (Nat.le_of_ble_eq_true rfl) dX9_matching_96
        · refine lv_iload hx hb dX9_matching_39 (lv_at hl 1 rfl) ?_
          refine lv_aload_n hx hb dX9_matching_41 rfl (lv_at hl 3 rfl) ?_
          refine T_get (ci := 9) (C := RX9) (T := TX9) (N := 11) (t := (1, 2, g 3, 30)) hx hb hts inw_X9_matching_9 hown hK hP hT 1 rfl rfl 1 (by decide) (hts (.fieldLink RX9 18 "VatHouse" "cloths" "[LVatHouse$Cloth;") (by decide +kernel)) (fun _ h9 => h9) rfl dX9_matching_42 (fun v_17 hv_15 hr_16 => ?_)
          obtain ⟨b_18, rfl, hb9⟩ := hv_15
          have hT := hT.add hb9
          refine T_alen hx hb hK hP hT 0 3 rfl rfl (v := 30) rfl dX9_matching_45 ?_
          refine lv_icmp_ge (tgt := 94) hx hb dX9_matching_46 (by decide) (fun c_19 => ?_) (fun c_19 => ?_)
          · refine lv_iload hx hb dX9_matching_94 (lv_at hl 0 rfl) ?_
            refine vx_ret ?_
            exact K_i hx hb hr hlocks hP hD hK hS hT hE ⟨⟨_, rfl⟩, hF⟩ (Nat.le_of_ble_eq_true rfl) (Nat.le_of_ble_eq_true rfl) dX9_matching_96
          · refine lv_aload_n hx hb dX9_matching_49 rfl (lv_at hl 3 rfl) ?_
            refine T_get (ci := 9) (C := RX9) (T := TX9) (N := 11) (t := (1, 2, g 3, 30)) hx hb hts inw_X9_matching_9 hown hK hP hT 2 rfl rfl 1 (by decide) (hts (.fieldLink RX9 18 "VatHouse" "cloths" "[LVatHouse$Cloth;") (by decide +kernel)) (fun _ h9 => h9) rfl dX9_matching_50 (fun v_22 hv_20 hr_21 => ?_)
            obtain rfl : v_22 = .ref b_18 := hr_21.symm.trans hr_16
            refine lv_iload hx hb dX9_matching_53 (lv_at hl 1 rfl) ?_
            refine T_cald hx hb hK hP hT 0 3 rfl rfl (up_in (by decide) hm (by decide) c_19 (by decide) (by decide)) dX9_matching_55 (fun hra => ?_) (fun b_23 hb9 hra => ?_)
            · refine lv_astoreN (lv' := [(6, .null), (4, .int bi), (5, .int ii), (3, .ref b_5), (0, .ref h0), (1, .int a), (2, .int b)]) hx hb dX9_matching_56 hl (by decide) rfl (fun ls hl => ?_)
              refine lv_aloadN hx hb dX9_matching_58 (lv_at hl 0 rfl) ?_
              refine lv_ifnullN (tgt := 88) hx hb dX9_matching_60 (by decide) ?_
              refine lv_iinc (v := (ii + 1)) (lv' := [(5, .int (ii + 1)), (6, .null), (4, .int bi), (3, .ref b_5), (0, .ref h0), (1, .int a), (2, .int b)]) hx hb dX9_matching_88 hl (k := 2) rfl rfl (by decide) rfl (fun ls hl => ?_)
              refine lv_goto (tgt := 30) hx hb dX9_matching_91 (by decide) ?_
              exact ih bi (ii + 1) _ _ _ _ _ (up_nx (by decide) hm (by decide) c_19)  hP hD hS (hT.sub [1, 2] rfl) hE hF (lv_sub hl [2, 0, 3, 4, 5, 6] rfl)
            · have hT := hT.add hb9
              refine lv_astore (lv' := [(6, .ref b_23), (4, .int bi), (5, .int ii), (3, .ref b_5), (0, .ref h0), (1, .int a), (2, .int b)]) hx hb dX9_matching_56 hl (by decide) rfl (fun ls hl => ?_)
              refine lv_aload hx hb dX9_matching_58 (lv_at hl 0 rfl) ?_
              refine lv_ifnull hx hb dX9_matching_60 ?_
              refine lv_iload hx hb dX9_matching_63 (lv_at hl 2 rfl) ?_
              refine lv_iload_n hx hb dX9_matching_65 rfl (lv_at hl 5 rfl) ?_
              refine lv_icmp_eq (tgt := 88) hx hb dX9_matching_66 (by decide) (fun c_24 => ?_) (fun c_24 => ?_)
              · refine lv_iinc (v := (ii + 1)) (lv' := [(5, .int (ii + 1)), (6, .ref b_23), (4, .int bi), (3, .ref b_5), (0, .ref h0), (1, .int a), (2, .int b)]) hx hb dX9_matching_88 hl (k := 2) rfl rfl (by decide) rfl (fun ls hl => ?_)
                refine lv_goto (tgt := 30) hx hb dX9_matching_91 (by decide) ?_
                exact ih bi (ii + 1) _ _ _ _ _ (up_nx (by decide) hm (by decide) c_19)  hP hD hS (hT.sub [2, 3] rfl) hE hF (lv_sub hl [2, 0, 3, 4, 5, 6] rfl)
              · refine lv_aload_n hx hb dX9_matching_69 rfl (lv_at hl 3 rfl) ?_
                refine lv_aload hx hb dX9_matching_70 (lv_at hl 0 rfl) ?_
                refine lv_iload_n hx hb dX9_matching_72 rfl (lv_at hl 6 rfl) ?_
                refine K_V ⟨hx, hb, hml, hown, hts⟩ (t_X0_spanMeets l dC dI sa hlt g _ _ b_5 b_23 b _ (hT.sub [2, 0] rfl)  ) (cwV 2 hts gX9_matching_X0_spanMeets rfl rfl rfl (by decide +kernel) ⟨Nat.le_of_ble_eq_true rfl, Nat.le_of_ble_eq_true rfl⟩) hP hD hK hS hA hev hT 2 0 rfl rfl rfl rfl hl.1 rfl (Nat.le_of_ble_eq_true rfl) dX9_matching_73 ⟨Nat.le_of_ble_eq_true rfl, Nat.le_of_ble_eq_true rfl⟩ (fun r L_25 f_26 H locs hw_27 hP hD hS hT hE1 => ?_)
                have hF := Fr.call hF hE hw_27.2 (by decide)
                have hE := hE.tr hE1
                obtain ⟨⟨z_28, rfl, hz_z_28⟩, hw_27⟩ := hw_27
                refine W.eq (g2 := F0 m 76 ls [.int z_28]) rfl ?_
                refine lv_if_eq (tgt := 88) hx hb dX9_matching_76 (by decide) (fun c_29 => ?_) (fun c_29 => ?_)
                · refine lv_iinc (v := (ii + 1)) (lv' := [(5, .int (ii + 1)), (6, .ref b_23), (4, .int bi), (3, .ref b_5), (0, .ref h0), (1, .int a), (2, .int b)]) hx hb dX9_matching_88 hl (k := 2) rfl rfl (by decide) rfl (fun ls hl => ?_)
                  refine lv_goto (tgt := 30) hx hb dX9_matching_91 (by decide) ?_
                  exact ih bi (ii + 1) _ _ _ _ _ (up_nx (by decide) hm (by decide) c_19)  hP hD hS (hT.sub [2, 3] rfl) hE hF (lv_sub hl [2, 0, 3, 4, 5, 6] rfl)
                · refine lv_iload hx hb dX9_matching_79 (lv_at hl 1 rfl) ?_
                  refine lv_iconst (v := 1) hx hb dX9_matching_81 (by decide) ?_
                  refine lv_iload hx hb dX9_matching_82 (lv_at hl 2 rfl) ?_
                  refine lv_ishl hx hb dX9_matching_84 ?_
                  refine lv_topi (fun z_30 ez_30 => ?_)
                  refine lv_ior hx hb dX9_matching_85 ?_
                  refine lv_topi (fun z_31 ez_31 => ?_)
                  refine lv_istore (lv' := [(4, .int z_31), (6, .ref b_23), (5, .int ii), (3, .ref b_5), (0, .ref h0), (1, .int a), (2, .int b)]) hx hb dX9_matching_86 hl (by decide) rfl (fun ls hl => ?_)
                  refine lv_iinc (v := (ii + 1)) (lv' := [(5, .int (ii + 1)), (4, .int z_31), (6, .ref b_23), (3, .ref b_5), (0, .ref h0), (1, .int a), (2, .int b)]) hx hb dX9_matching_88 hl (k := 2) rfl rfl (by decide) rfl (fun ls hl => ?_)
                  refine lv_goto (tgt := 30) hx hb dX9_matching_91 (by decide) ?_
                  exact ih z_31 (ii + 1) _ _ _ _ _ (up_nx (by decide) hm (by decide) c_19)  hP hD hS (hT.sub [2, 3] rfl) hE hF (lv_sub hl [1, 0, 3, 4, 5, 6] rfl)
    exact lp 31 0 0 _ _ _ _ _ (⟨0, nI_0.symm, by omega, by omega⟩)  hP hD hS (hT.sub [0, 1] rfl) hE hF (lv_sub hl [1, 0, 2, 3, 4, 5] rfl)
  · refine lv_iload_n hx hb dX9_matching_10 rfl (lv_at hl 3 rfl) ?_
    refine lv_ldc (v := 1000000) hx hb hown (hts (.constant RX9 61 (1000000)) (by decide +kernel)) dX9_matching_11 ?_
    refine lv_icmp_gt (tgt := 20) hx hb dX9_matching_13 (by decide) (fun c_32 => ?_) (fun c_32 => ?_)
    · refine lv_iconst (v := 0) hx hb dX9_matching_20 (by decide) ?_
      refine K_SX ⟨hx, hb, hml, hown, hts⟩ (t_X9_demand l dC dI sa hlt g _ _ 0 _ (hT.sub [] rfl)  ) (va_cwS 1 hts gX9_matching_X9_demand rfl rfl rfl (by decide +kernel) ⟨Nat.le_of_ble_eq_true rfl, Nat.le_of_ble_eq_true rfl⟩) hP hD hK hS hA hev hT rfl hl.1 rfl (Nat.le_of_ble_eq_true rfl) dX9_matching_21 ⟨Nat.le_of_ble_eq_true rfl, Nat.le_of_ble_eq_true rfl⟩ (fun E ce q9 L9 f9 H locs hpx hP hD hS hT hE1 hce hcv hcl => ?_) (fun r L_33 f_34 H locs hw_35 hP hD hS hT hE1 => ?_)
      · have hF := Fr.call hF hE hpx.2 (by decide)
        have hE := hE.tr hE1
        exact K_out hno hlocks ⟨Or.inr hpx.1, hF⟩ hP hD hK hS hT hE hce hcv hcl (Nat.le_of_ble_eq_true rfl) (Nat.le_of_ble_eq_true rfl)
      have hF := Fr.call hF hE hw_35.2 (by decide)
      have hE := hE.tr hE1
      obtain ⟨rfl, hw_35⟩ := hw_35
      refine W.eq (g2 := F0 m 24 ls []) rfl ?_
      refine lv_iconst (v := 0) hx hb dX9_matching_24 (by decide) ?_
      refine lv_istore (lv' := [(4, .int 0), (3, .ref b_5), (0, .ref h0), (1, .int a), (2, .int b)]) hx hb dX9_matching_25 hl (by decide) rfl (fun ls hl => ?_)
      refine lv_iconst (v := 0) hx hb dX9_matching_27 (by decide) ?_
      refine lv_istore (lv' := [(5, .int 0), (4, .int 0), (3, .ref b_5), (0, .ref h0), (1, .int a), (2, .int b)]) hx hb dX9_matching_28 hl (by decide) rfl (fun ls hl => ?_)
      have lp : ∀ (n : Nat) (bi : Int32) (ii : Int32) (L1 : List Nat) (f1 : Nat → va_E) (H : Heap) (locs : List Loc) (ls : Array Slot), (∃ a : Nat, ii = nI a ∧ a ≤ 30 ∧ 30 < a + n) → va_P (dC, dI) vwCl (va_pl L1 f1) H → va_D (va_A (va_pl L f) s.heap.size) (va_pl L1 f1) → va_S (va_A (va_pl L f) s.heap.size) s.heap H locs → TP g L1 f1 [(b_5, (0, 0, 0)), (h0, (0, 9, 0))] → Ext L f L1 f1 → Fr [] L f f1 → lv_has ls 7 [(4, .int bi), (5, .int ii), (3, .ref b_5), (0, .ref h0), (1, .int a), (2, .int b)] → W p l e rm_X9_matching s m [.ref h0, .int a, .int b].toArray below meth c H locs 2 12 (vx_MQ below (Qg (kpost g L f (fun r L' f' => (∃ z : Int32, r = some (.int z)) ∧ Fr [] L f f')) (fun (u : PL) t => QW dC dI (va_A (va_pl L f) s.heap.size) (va_pl u.1 u.2) [] t) (va_A (va_pl L f) s.heap.size)) (XK dC dI g L f s.heap.size (fun E L' f' => (E = NSE ∨ E = IAE) ∧ Fr [] L f f')) [.ref h0, .int a, .int b].toArray s (2) (12) (va_A (va_pl L f) s.heap.size)) (F0 m 30 ls []) := by
        intro n
        induction n with
        | zero => intro bi ii L1 f1 H locs ls hm  hP hD hS hT hE hF hl; exact absurd hm (by rintro ⟨a, -, h1, h2⟩; omega)
        | succ n ih =>
          intro bi ii L1 f1 H locs ls hm  hP hD hS hT hE hF hl
          refine lv_iload hx hb dX9_matching_30 (lv_at hl 1 rfl) ?_
          refine lv_aload_n hx hb dX9_matching_32 rfl (lv_at hl 3 rfl) ?_
          refine T_get (ci := 9) (C := RX9) (T := TX9) (N := 11) (t := tI) hx hb hts inw_X9_matching_9 hown hK hP hT 1 rfl rfl 2 (by decide) (hts (.fieldLink RX9 92 "VatHouse" "clothsMade" "I") (by decide +kernel)) (fun _ h9 => h9) rfl dX9_matching_33 (fun v_38 hv_36 hr_37 => ?_)
          obtain ⟨z_39, rfl⟩ := hv_36
          refine lv_icmp_ge (tgt := 94) hx hb dX9_matching_36 (by decide) (fun c_40 => ?_) (fun c_40 => ?_)
          · refine lv_iload hx hb dX9_matching_94 (lv_at hl 0 rfl) ?_
            refine vx_ret ?_
            exact K_i hx hb hr hlocks hP hD hK hS hT hE ⟨⟨_, rfl⟩, hF⟩ (Nat.le_of_ble_eq_true rfl) (Nat.le_of_ble_eq_true rfl) dX9_matching_96
          · refine lv_iload hx hb dX9_matching_39 (lv_at hl 1 rfl) ?_
            refine lv_aload_n hx hb dX9_matching_41 rfl (lv_at hl 3 rfl) ?_
            refine T_get (ci := 9) (C := RX9) (T := TX9) (N := 11) (t := (1, 2, g 3, 30)) hx hb hts inw_X9_matching_9 hown hK hP hT 1 rfl rfl 1 (by decide) (hts (.fieldLink RX9 18 "VatHouse" "cloths" "[LVatHouse$Cloth;") (by decide +kernel)) (fun _ h9 => h9) rfl dX9_matching_42 (fun v_43 hv_41 hr_42 => ?_)
            obtain ⟨b_44, rfl, hb9⟩ := hv_41
            have hT := hT.add hb9
            refine T_alen hx hb hK hP hT 0 3 rfl rfl (v := 30) rfl dX9_matching_45 ?_
            refine lv_icmp_ge (tgt := 94) hx hb dX9_matching_46 (by decide) (fun c_45 => ?_) (fun c_45 => ?_)
            · refine lv_iload hx hb dX9_matching_94 (lv_at hl 0 rfl) ?_
              refine vx_ret ?_
              exact K_i hx hb hr hlocks hP hD hK hS hT hE ⟨⟨_, rfl⟩, hF⟩ (Nat.le_of_ble_eq_true rfl) (Nat.le_of_ble_eq_true rfl) dX9_matching_96
            · refine lv_aload_n hx hb dX9_matching_49 rfl (lv_at hl 3 rfl) ?_
              refine T_get (ci := 9) (C := RX9) (T := TX9) (N := 11) (t := (1, 2, g 3, 30)) hx hb hts inw_X9_matching_9 hown hK hP hT 2 rfl rfl 1 (by decide) (hts (.fieldLink RX9 18 "VatHouse" "cloths" "[LVatHouse$Cloth;") (by decide +kernel)) (fun _ h9 => h9) rfl dX9_matching_50 (fun v_48 hv_46 hr_47 => ?_)
              obtain rfl : v_48 = .ref b_44 := hr_47.symm.trans hr_42
              refine lv_iload hx hb dX9_matching_53 (lv_at hl 1 rfl) ?_
              refine T_cald hx hb hK hP hT 0 3 rfl rfl (up_in (by decide) hm (by decide) c_45 (by decide) (by decide)) dX9_matching_55 (fun hra => ?_) (fun b_49 hb9 hra => ?_)
              · refine lv_astoreN (lv' := [(6, .null), (4, .int bi), (5, .int ii), (3, .ref b_5), (0, .ref h0), (1, .int a), (2, .int b)]) hx hb dX9_matching_56 hl (by decide) rfl (fun ls hl => ?_)
                refine lv_aloadN hx hb dX9_matching_58 (lv_at hl 0 rfl) ?_
                refine lv_ifnullN (tgt := 88) hx hb dX9_matching_60 (by decide) ?_
                refine lv_iinc (v := (ii + 1)) (lv' := [(5, .int (ii + 1)), (6, .null), (4, .int bi), (3, .ref b_5), (0, .ref h0), (1, .int a), (2, .int b)]) hx hb dX9_matching_88 hl (k := 2) rfl rfl (by decide) rfl (fun ls hl => ?_)
                refine lv_goto (tgt := 30) hx hb dX9_matching_91 (by decide) ?_
                exact ih bi (ii + 1) _ _ _ _ _ (up_nx (by decide) hm (by decide) c_45)  hP hD hS (hT.sub [1, 2] rfl) hE hF (lv_sub hl [2, 0, 3, 4, 5, 6] rfl)
              · have hT := hT.add hb9
                refine lv_astore (lv' := [(6, .ref b_49), (4, .int bi), (5, .int ii), (3, .ref b_5), (0, .ref h0), (1, .int a), (2, .int b)]) hx hb dX9_matching_56 hl (by decide) rfl (fun ls hl => ?_)
                refine lv_aload hx hb dX9_matching_58 (lv_at hl 0 rfl) ?_
                refine lv_ifnull hx hb dX9_matching_60 ?_
                refine lv_iload hx hb dX9_matching_63 (lv_at hl 2 rfl) ?_
                refine lv_iload_n hx hb dX9_matching_65 rfl (lv_at hl 5 rfl) ?_
                refine lv_icmp_eq (tgt := 88) hx hb dX9_matching_66 (by decide) (fun c_50 => ?_) (fun c_50 => ?_)
                · refine lv_iinc (v := (ii + 1)) (lv' := [(5, .int (ii + 1)), (6, .ref b_49), (4, .int bi), (3, .ref b_5), (0, .ref h0), (1, .int a), (2, .int b)]) hx hb dX9_matching_88 hl (k := 2) rfl rfl (by decide) rfl (fun ls hl => ?_)
                  refine lv_goto (tgt := 30) hx hb dX9_matching_91 (by decide) ?_
                  exact ih bi (ii + 1) _ _ _ _ _ (up_nx (by decide) hm (by decide) c_45)  hP hD hS (hT.sub [2, 3] rfl) hE hF (lv_sub hl [2, 0, 3, 4, 5, 6] rfl)
                · refine lv_aload_n hx hb dX9_matching_69 rfl (lv_at hl 3 rfl) ?_
                  refine lv_aload hx hb dX9_matching_70 (lv_at hl 0 rfl) ?_
                  refine lv_iload_n hx hb dX9_matching_72 rfl (lv_at hl 6 rfl) ?_
                  refine K_V ⟨hx, hb, hml, hown, hts⟩ (t_X0_spanMeets l dC dI sa hlt g _ _ b_5 b_49 b _ (hT.sub [2, 0] rfl)  ) (cwV 2 hts gX9_matching_X0_spanMeets rfl rfl rfl (by decide +kernel) ⟨Nat.le_of_ble_eq_true rfl, Nat.le_of_ble_eq_true rfl⟩) hP hD hK hS hA hev hT 2 0 rfl rfl rfl rfl hl.1 rfl (Nat.le_of_ble_eq_true rfl) dX9_matching_73 ⟨Nat.le_of_ble_eq_true rfl, Nat.le_of_ble_eq_true rfl⟩ (fun r L_51 f_52 H locs hw_53 hP hD hS hT hE1 => ?_)
                  have hF := Fr.call hF hE hw_53.2 (by decide)
                  have hE := hE.tr hE1
                  obtain ⟨⟨z_54, rfl, hz_z_54⟩, hw_53⟩ := hw_53
                  refine W.eq (g2 := F0 m 76 ls [.int z_54]) rfl ?_
                  refine lv_if_eq (tgt := 88) hx hb dX9_matching_76 (by decide) (fun c_55 => ?_) (fun c_55 => ?_)
                  · refine lv_iinc (v := (ii + 1)) (lv' := [(5, .int (ii + 1)), (6, .ref b_49), (4, .int bi), (3, .ref b_5), (0, .ref h0), (1, .int a), (2, .int b)]) hx hb dX9_matching_88 hl (k := 2) rfl rfl (by decide) rfl (fun ls hl => ?_)
                    refine lv_goto (tgt := 30) hx hb dX9_matching_91 (by decide) ?_
                    exact ih bi (ii + 1) _ _ _ _ _ (up_nx (by decide) hm (by decide) c_45)  hP hD hS (hT.sub [2, 3] rfl) hE hF (lv_sub hl [2, 0, 3, 4, 5, 6] rfl)
                  · refine lv_iload hx hb dX9_matching_79 (lv_at hl 1 rfl) ?_
                    refine lv_iconst (v := 1) hx hb dX9_matching_81 (by decide) ?_
                    refine lv_iload hx hb dX9_matching_82 (lv_at hl 2 rfl) ?_
                    refine lv_ishl hx hb dX9_matching_84 ?_
                    refine lv_topi (fun z_56 ez_56 => ?_)
                    refine lv_ior hx hb dX9_matching_85 ?_
                    refine lv_topi (fun z_57 ez_57 => ?_)
                    refine lv_istore (lv' := [(4, .int z_57), (6, .ref b_49), (5, .int ii), (3, .ref b_5), (0, .ref h0), (1, .int a), (2, .int b)]) hx hb dX9_matching_86 hl (by decide) rfl (fun ls hl => ?_)
                    refine lv_iinc (v := (ii + 1)) (lv' := [(5, .int (ii + 1)), (4, .int z_57), (6, .ref b_49), (3, .ref b_5), (0, .ref h0), (1, .int a), (2, .int b)]) hx hb dX9_matching_88 hl (k := 2) rfl rfl (by decide) rfl (fun ls hl => ?_)
                    refine lv_goto (tgt := 30) hx hb dX9_matching_91 (by decide) ?_
                    exact ih z_57 (ii + 1) _ _ _ _ _ (up_nx (by decide) hm (by decide) c_45)  hP hD hS (hT.sub [2, 3] rfl) hE hF (lv_sub hl [1, 0, 3, 4, 5, 6] rfl)
      exact lp 31 0 0 _ _ _ _ _ (⟨0, nI_0.symm, by omega, by omega⟩)  hP hD hS (hT.sub [0, 1] rfl) hE hF (lv_sub hl [1, 0, 2, 3, 4, 5] rfl)
    · refine lv_iconst (v := 1) hx hb dX9_matching_16 (by decide) ?_
      refine lv_goto (tgt := 21) hx hb dX9_matching_17 (by decide) ?_
      refine K_SX ⟨hx, hb, hml, hown, hts⟩ (t_X9_demand l dC dI sa hlt g _ _ 1 _ (hT.sub [] rfl)  ) (va_cwS 1 hts gX9_matching_X9_demand rfl rfl rfl (by decide +kernel) ⟨Nat.le_of_ble_eq_true rfl, Nat.le_of_ble_eq_true rfl⟩) hP hD hK hS hA hev hT rfl hl.1 rfl (Nat.le_of_ble_eq_true rfl) dX9_matching_21 ⟨Nat.le_of_ble_eq_true rfl, Nat.le_of_ble_eq_true rfl⟩ (fun E ce q9 L9 f9 H locs hpx hP hD hS hT hE1 hce hcv hcl => ?_) (fun r L_58 f_59 H locs hw_60 hP hD hS hT hE1 => ?_)
      · have hF := Fr.call hF hE hpx.2 (by decide)
        have hE := hE.tr hE1
        exact K_out hno hlocks ⟨Or.inr hpx.1, hF⟩ hP hD hK hS hT hE hce hcv hcl (Nat.le_of_ble_eq_true rfl) (Nat.le_of_ble_eq_true rfl)
      have hF := Fr.call hF hE hw_60.2 (by decide)
      have hE := hE.tr hE1
      obtain ⟨rfl, hw_60⟩ := hw_60
      refine W.eq (g2 := F0 m 24 ls []) rfl ?_
      refine lv_iconst (v := 0) hx hb dX9_matching_24 (by decide) ?_
      refine lv_istore (lv' := [(4, .int 0), (3, .ref b_5), (0, .ref h0), (1, .int a), (2, .int b)]) hx hb dX9_matching_25 hl (by decide) rfl (fun ls hl => ?_)
      refine lv_iconst (v := 0) hx hb dX9_matching_27 (by decide) ?_
      refine lv_istore (lv' := [(5, .int 0), (4, .int 0), (3, .ref b_5), (0, .ref h0), (1, .int a), (2, .int b)]) hx hb dX9_matching_28 hl (by decide) rfl (fun ls hl => ?_)
      have lp : ∀ (n : Nat) (bi : Int32) (ii : Int32) (L1 : List Nat) (f1 : Nat → va_E) (H : Heap) (locs : List Loc) (ls : Array Slot), (∃ a : Nat, ii = nI a ∧ a ≤ 30 ∧ 30 < a + n) → va_P (dC, dI) vwCl (va_pl L1 f1) H → va_D (va_A (va_pl L f) s.heap.size) (va_pl L1 f1) → va_S (va_A (va_pl L f) s.heap.size) s.heap H locs → TP g L1 f1 [(b_5, (0, 0, 0)), (h0, (0, 9, 0))] → Ext L f L1 f1 → Fr [] L f f1 → lv_has ls 7 [(4, .int bi), (5, .int ii), (3, .ref b_5), (0, .ref h0), (1, .int a), (2, .int b)] → W p l e rm_X9_matching s m [.ref h0, .int a, .int b].toArray below meth c H locs 2 12 (vx_MQ below (Qg (kpost g L f (fun r L' f' => (∃ z : Int32, r = some (.int z)) ∧ Fr [] L f f')) (fun (u : PL) t => QW dC dI (va_A (va_pl L f) s.heap.size) (va_pl u.1 u.2) [] t) (va_A (va_pl L f) s.heap.size)) (XK dC dI g L f s.heap.size (fun E L' f' => (E = NSE ∨ E = IAE) ∧ Fr [] L f f')) [.ref h0, .int a, .int b].toArray s (2) (12) (va_A (va_pl L f) s.heap.size)) (F0 m 30 ls []) := by
        intro n
        induction n with
        | zero => intro bi ii L1 f1 H locs ls hm  hP hD hS hT hE hF hl; exact absurd hm (by rintro ⟨a, -, h1, h2⟩; omega)
        | succ n ih =>
          intro bi ii L1 f1 H locs ls hm  hP hD hS hT hE hF hl
          refine lv_iload hx hb dX9_matching_30 (lv_at hl 1 rfl) ?_
          refine lv_aload_n hx hb dX9_matching_32 rfl (lv_at hl 3 rfl) ?_
          refine T_get (ci := 9) (C := RX9) (T := TX9) (N := 11) (t := tI) hx hb hts inw_X9_matching_9 hown hK hP hT 1 rfl rfl 2 (by decide) (hts (.fieldLink RX9 92 "VatHouse" "clothsMade" "I") (by decide +kernel)) (fun _ h9 => h9) rfl dX9_matching_33 (fun v_63 hv_61 hr_62 => ?_)
          obtain ⟨z_64, rfl⟩ := hv_61
          refine lv_icmp_ge (tgt := 94) hx hb dX9_matching_36 (by decide) (fun c_65 => ?_) (fun c_65 => ?_)
          · refine lv_iload hx hb dX9_matching_94 (lv_at hl 0 rfl) ?_
            refine vx_ret ?_
            exact K_i hx hb hr hlocks hP hD hK hS hT hE ⟨⟨_, rfl⟩, hF⟩ (Nat.le_of_ble_eq_true rfl) (Nat.le_of_ble_eq_true rfl) dX9_matching_96
          · refine lv_iload hx hb dX9_matching_39 (lv_at hl 1 rfl) ?_
            refine lv_aload_n hx hb dX9_matching_41 rfl (lv_at hl 3 rfl) ?_
            refine T_get (ci := 9) (C := RX9) (T := TX9) (N := 11) (t := (1, 2, g 3, 30)) hx hb hts inw_X9_matching_9 hown hK hP hT 1 rfl rfl 1 (by decide) (hts (.fieldLink RX9 18 "VatHouse" "cloths" "[LVatHouse$Cloth;") (by decide +kernel)) (fun _ h9 => h9) rfl dX9_matching_42 (fun v_68 hv_66 hr_67 => ?_)
            obtain ⟨b_69, rfl, hb9⟩ := hv_66
            have hT := hT.add hb9
            refine T_alen hx hb hK hP hT 0 3 rfl rfl (v := 30) rfl dX9_matching_45 ?_
            refine lv_icmp_ge (tgt := 94) hx hb dX9_matching_46 (by decide) (fun c_70 => ?_) (fun c_70 => ?_)
            · refine lv_iload hx hb dX9_matching_94 (lv_at hl 0 rfl) ?_
              refine vx_ret ?_
              exact K_i hx hb hr hlocks hP hD hK hS hT hE ⟨⟨_, rfl⟩, hF⟩ (Nat.le_of_ble_eq_true rfl) (Nat.le_of_ble_eq_true rfl) dX9_matching_96
            · refine lv_aload_n hx hb dX9_matching_49 rfl (lv_at hl 3 rfl) ?_
              refine T_get (ci := 9) (C := RX9) (T := TX9) (N := 11) (t := (1, 2, g 3, 30)) hx hb hts inw_X9_matching_9 hown hK hP hT 2 rfl rfl 1 (by decide) (hts (.fieldLink RX9 18 "VatHouse" "cloths" "[LVatHouse$Cloth;") (by decide +kernel)) (fun _ h9 => h9) rfl dX9_matching_50 (fun v_73 hv_71 hr_72 => ?_)
              obtain rfl : v_73 = .ref b_69 := hr_72.symm.trans hr_67
              refine lv_iload hx hb dX9_matching_53 (lv_at hl 1 rfl) ?_
              refine T_cald hx hb hK hP hT 0 3 rfl rfl (up_in (by decide) hm (by decide) c_70 (by decide) (by decide)) dX9_matching_55 (fun hra => ?_) (fun b_74 hb9 hra => ?_)
              · refine lv_astoreN (lv' := [(6, .null), (4, .int bi), (5, .int ii), (3, .ref b_5), (0, .ref h0), (1, .int a), (2, .int b)]) hx hb dX9_matching_56 hl (by decide) rfl (fun ls hl => ?_)
                refine lv_aloadN hx hb dX9_matching_58 (lv_at hl 0 rfl) ?_
                refine lv_ifnullN (tgt := 88) hx hb dX9_matching_60 (by decide) ?_
                refine lv_iinc (v := (ii + 1)) (lv' := [(5, .int (ii + 1)), (6, .null), (4, .int bi), (3, .ref b_5), (0, .ref h0), (1, .int a), (2, .int b)]) hx hb dX9_matching_88 hl (k := 2) rfl rfl (by decide) rfl (fun ls hl => ?_)
                refine lv_goto (tgt := 30) hx hb dX9_matching_91 (by decide) ?_
                exact ih bi (ii + 1) _ _ _ _ _ (up_nx (by decide) hm (by decide) c_70)  hP hD hS (hT.sub [1, 2] rfl) hE hF (lv_sub hl [2, 0, 3, 4, 5, 6] rfl)
              · have hT := hT.add hb9
                refine lv_astore (lv' := [(6, .ref b_74), (4, .int bi), (5, .int ii), (3, .ref b_5), (0, .ref h0), (1, .int a), (2, .int b)]) hx hb dX9_matching_56 hl (by decide) rfl (fun ls hl => ?_)
                refine lv_aload hx hb dX9_matching_58 (lv_at hl 0 rfl) ?_
                refine lv_ifnull hx hb dX9_matching_60 ?_
                refine lv_iload hx hb dX9_matching_63 (lv_at hl 2 rfl) ?_
                refine lv_iload_n hx hb dX9_matching_65 rfl (lv_at hl 5 rfl) ?_
                refine lv_icmp_eq (tgt := 88) hx hb dX9_matching_66 (by decide) (fun c_75 => ?_) (fun c_75 => ?_)
                · refine lv_iinc (v := (ii + 1)) (lv' := [(5, .int (ii + 1)), (6, .ref b_74), (4, .int bi), (3, .ref b_5), (0, .ref h0), (1, .int a), (2, .int b)]) hx hb dX9_matching_88 hl (k := 2) rfl rfl (by decide) rfl (fun ls hl => ?_)
                  refine lv_goto (tgt := 30) hx hb dX9_matching_91 (by decide) ?_
                  exact ih bi (ii + 1) _ _ _ _ _ (up_nx (by decide) hm (by decide) c_70)  hP hD hS (hT.sub [2, 3] rfl) hE hF (lv_sub hl [2, 0, 3, 4, 5, 6] rfl)
                · refine lv_aload_n hx hb dX9_matching_69 rfl (lv_at hl 3 rfl) ?_
                  refine lv_aload hx hb dX9_matching_70 (lv_at hl 0 rfl) ?_
                  refine lv_iload_n hx hb dX9_matching_72 rfl (lv_at hl 6 rfl) ?_
                  refine K_V ⟨hx, hb, hml, hown, hts⟩ (t_X0_spanMeets l dC dI sa hlt g _ _ b_5 b_74 b _ (hT.sub [2, 0] rfl)  ) (cwV 2 hts gX9_matching_X0_spanMeets rfl rfl rfl (by decide +kernel) ⟨Nat.le_of_ble_eq_true rfl, Nat.le_of_ble_eq_true rfl⟩) hP hD hK hS hA hev hT 2 0 rfl rfl rfl rfl hl.1 rfl (Nat.le_of_ble_eq_true rfl) dX9_matching_73 ⟨Nat.le_of_ble_eq_true rfl, Nat.le_of_ble_eq_true rfl⟩ (fun r L_76 f_77 H locs hw_78 hP hD hS hT hE1 => ?_)
                  have hF := Fr.call hF hE hw_78.2 (by decide)
                  have hE := hE.tr hE1
                  obtain ⟨⟨z_79, rfl, hz_z_79⟩, hw_78⟩ := hw_78
                  refine W.eq (g2 := F0 m 76 ls [.int z_79]) rfl ?_
                  refine lv_if_eq (tgt := 88) hx hb dX9_matching_76 (by decide) (fun c_80 => ?_) (fun c_80 => ?_)
                  · refine lv_iinc (v := (ii + 1)) (lv' := [(5, .int (ii + 1)), (6, .ref b_74), (4, .int bi), (3, .ref b_5), (0, .ref h0), (1, .int a), (2, .int b)]) hx hb dX9_matching_88 hl (k := 2) rfl rfl (by decide) rfl (fun ls hl => ?_)
                    refine lv_goto (tgt := 30) hx hb dX9_matching_91 (by decide) ?_
                    exact ih bi (ii + 1) _ _ _ _ _ (up_nx (by decide) hm (by decide) c_70)  hP hD hS (hT.sub [2, 3] rfl) hE hF (lv_sub hl [2, 0, 3, 4, 5, 6] rfl)
                  · refine lv_iload hx hb dX9_matching_79 (lv_at hl 1 rfl) ?_
                    refine lv_iconst (v := 1) hx hb dX9_matching_81 (by decide) ?_
                    refine lv_iload hx hb dX9_matching_82 (lv_at hl 2 rfl) ?_
                    refine lv_ishl hx hb dX9_matching_84 ?_
                    refine lv_topi (fun z_81 ez_81 => ?_)
                    refine lv_ior hx hb dX9_matching_85 ?_
                    refine lv_topi (fun z_82 ez_82 => ?_)
                    refine lv_istore (lv' := [(4, .int z_82), (6, .ref b_74), (5, .int ii), (3, .ref b_5), (0, .ref h0), (1, .int a), (2, .int b)]) hx hb dX9_matching_86 hl (by decide) rfl (fun ls hl => ?_)
                    refine lv_iinc (v := (ii + 1)) (lv' := [(5, .int (ii + 1)), (4, .int z_82), (6, .ref b_74), (3, .ref b_5), (0, .ref h0), (1, .int a), (2, .int b)]) hx hb dX9_matching_88 hl (k := 2) rfl rfl (by decide) rfl (fun ls hl => ?_)
                    refine lv_goto (tgt := 30) hx hb dX9_matching_91 (by decide) ?_
                    exact ih z_82 (ii + 1) _ _ _ _ _ (up_nx (by decide) hm (by decide) c_70)  hP hD hS (hT.sub [2, 3] rfl) hE hF (lv_sub hl [1, 0, 3, 4, 5, 6] rfl)
      exact lp 31 0 0 _ _ _ _ _ (⟨0, nI_0.symm, by omega, by omega⟩)  hP hD hS (hT.sub [0, 1] rfl) hE hF (lv_sub hl [1, 0, 2, 3, 4, 5] rfl)
