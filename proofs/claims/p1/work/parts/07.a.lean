theorem nfX0 : ∀ j, j < 8 → defaultValue (tyX0 j) = vp_V [.int 0, .int 0, .int 0, .int 0, .int 0, .int 0, .int 0, .int 0] j := fun j hj => by
  match j, hj with
  | 0, _ => rfl
  | 1, _ => rfl
  | 2, _ => rfl
  | 3, _ => rfl
  | 4, _ => rfl
  | 5, _ => rfl
  | 6, _ => rfl
  | 7, _ => rfl
  | n + 8, h => exact absurd h (by omega)

theorem nfX1 : ∀ j, j < 9 → defaultValue (tyX1 j) = vp_V [.null, .null, .null, .int 0, .int 0, .int 0, .null, .null, .null] j := fun j hj => by
  match j, hj with
  | 0, _ => rfl
  | 1, _ => rfl
  | 2, _ => rfl
  | 3, _ => rfl
  | 4, _ => rfl
  | 5, _ => rfl
  | 6, _ => rfl
  | 7, _ => rfl
  | 8, _ => rfl
  | n + 9, h => exact absurd h (by omega)

theorem nfX2 : ∀ j, j < 6 → defaultValue (tyX2 j) = vp_V [.null, .int 0, .int 0, .int 0, .int 0, .int 0] j := fun j hj => by
  match j, hj with
  | 0, _ => rfl
  | 1, _ => rfl
  | 2, _ => rfl
  | 3, _ => rfl
  | 4, _ => rfl
  | 5, _ => rfl
  | n + 6, h => exact absurd h (by omega)

theorem nfX3 : ∀ j, j < 1 → defaultValue (tyX3 j) = vp_V [.null] j := fun j hj => by
  match j, hj with
  | 0, _ => rfl
  | n + 1, h => exact absurd h (by omega)

theorem nfX4 : ∀ j, j < 8 → defaultValue (tyX4 j) = vp_V [.null, .int 0, .int 0, .int 0, .int 0, .int 0, .int 0, .int 0] j := fun j hj => by
  match j, hj with
  | 0, _ => rfl
  | 1, _ => rfl
  | 2, _ => rfl
  | 3, _ => rfl
  | 4, _ => rfl
  | 5, _ => rfl
  | 6, _ => rfl
  | 7, _ => rfl
  | n + 8, h => exact absurd h (by omega)

theorem nfX6 : ∀ j, j < 7 → defaultValue (tyX6 j) = vp_V [.null, .int 0, .int 0, .int 0, .null, .null, .null] j := fun j hj => by
  match j, hj with
  | 0, _ => rfl
  | 1, _ => rfl
  | 2, _ => rfl
  | 3, _ => rfl
  | 4, _ => rfl
  | 5, _ => rfl
  | 6, _ => rfl
  | n + 7, h => exact absurd h (by omega)

theorem nfX7 : ∀ j, j < 8 → defaultValue (tyX7 j) = vp_V [.int 0, .int 0, .int 0, .int 0, .int 0, .int 0, .int 0, .int 0] j := fun j hj => by
  match j, hj with
  | 0, _ => rfl
  | 1, _ => rfl
  | 2, _ => rfl
  | 3, _ => rfl
  | 4, _ => rfl
  | 5, _ => rfl
  | 6, _ => rfl
  | 7, _ => rfl
  | n + 8, h => exact absurd h (by omega)

theorem nfX8 : ∀ j, j < 3 → defaultValue (tyX8 j) = vp_V [.null, .int 0, .int 0] j := fun j hj => by
  match j, hj with
  | 0, _ => rfl
  | 1, _ => rfl
  | 2, _ => rfl
  | n + 3, h => exact absurd h (by omega)

theorem nfX9 : ∀ j, j < 11 → defaultValue (tyX9 j) = vp_V [.null, .null, .int 0, .int 0, .null, .int 0, .null, .null, .int 0, .null, .null] j := fun j hj => by
  match j, hj with
  | 0, _ => rfl
  | 1, _ => rfl
  | 2, _ => rfl
  | 3, _ => rfl
  | 4, _ => rfl
  | 5, _ => rfl
  | 6, _ => rfl
  | 7, _ => rfl
  | 8, _ => rfl
  | 9, _ => rfl
  | 10, _ => rfl
  | n + 11, h => exact absurd h (by omega)

theorem nfX10 : ∀ j, j < 51 → defaultValue (tyX10 j) = vp_V [.int 0, .int 0, .int 0, .int 0, .null, .null, .null, .null, .null, .null, .null, .null, .int 0, .null, .null, .null, .null, .null, .null, .null, .int 0, .int 0, .int 0, .int 0, .int 0, .int 0, .null, .null, .null, .null, .null, .null, .null, .null, .null, .null, .int 0, .int 0, .int 0, .int 0, .int 0, .int 0, .int 0, .int 0, .int 0, .int 0, .int 0, .null, .null, .null, .null] j := fun j hj => by
  match j, hj with
  | 0, _ => rfl
  | 1, _ => rfl
  | 2, _ => rfl
  | 3, _ => rfl
  | 4, _ => rfl
  | 5, _ => rfl
  | 6, _ => rfl
  | 7, _ => rfl
  | 8, _ => rfl
  | 9, _ => rfl
  | 10, _ => rfl
  | 11, _ => rfl
  | 12, _ => rfl
  | 13, _ => rfl
  | 14, _ => rfl
  | 15, _ => rfl
  | 16, _ => rfl
  | 17, _ => rfl
  | 18, _ => rfl
  | 19, _ => rfl
  | 20, _ => rfl
  | 21, _ => rfl
  | 22, _ => rfl
  | 23, _ => rfl
  | 24, _ => rfl
  | 25, _ => rfl
  | 26, _ => rfl
  | 27, _ => rfl
  | 28, _ => rfl
  | 29, _ => rfl
  | 30, _ => rfl
  | 31, _ => rfl
  | 32, _ => rfl
  | 33, _ => rfl
  | 34, _ => rfl
  | 35, _ => rfl
  | 36, _ => rfl
  | 37, _ => rfl
  | 38, _ => rfl
  | 39, _ => rfl
  | 40, _ => rfl
  | 41, _ => rfl
  | 42, _ => rfl
  | 43, _ => rfl
  | 44, _ => rfl
  | 45, _ => rfl
  | 46, _ => rfl
  | 47, _ => rfl
  | 48, _ => rfl
  | 49, _ => rfl
  | 50, _ => rfl
  | n + 51, h => exact absurd h (by omega)

theorem tab_out3 {x : Int32} (h0 : ¬ x = 0) (h1 : ¬ x = 1) (h2 : ¬ x = 2) : x.toInt < 0 ∨ 2 < x.toInt := by
  have e0 : x.toInt ≠ 0 := fun h => h0 (Int32.toInt_inj.mp h)
  have e1 : x.toInt ≠ 1 := fun h => h1 (Int32.toInt_inj.mp h)
  have e2 : x.toInt ≠ 2 := fun h => h2 (Int32.toInt_inj.mp h)
  omega

theorem tab_out6 {x : Int32} (h0 : ¬ x = 0) (h1 : ¬ x = 1) (h2 : ¬ x = 2) (h3 : ¬ x = 3) (h4 : ¬ x = 4) (h5 : ¬ x = 5) : x.toInt < 0 ∨ 5 < x.toInt := by
  have e0 : x.toInt ≠ 0 := fun h => h0 (Int32.toInt_inj.mp h)
  have e1 : x.toInt ≠ 1 := fun h => h1 (Int32.toInt_inj.mp h)
  have e2 : x.toInt ≠ 2 := fun h => h2 (Int32.toInt_inj.mp h)
  have e3 : x.toInt ≠ 3 := fun h => h3 (Int32.toInt_inj.mp h)
  have e4 : x.toInt ≠ 4 := fun h => h4 (Int32.toInt_inj.mp h)
  have e5 : x.toInt ≠ 5 := fun h => h5 (Int32.toInt_inj.mp h)
  omega

theorem tab_out8 {x : Int32} (h0 : ¬ x = 0) (h1 : ¬ x = 1) (h2 : ¬ x = 2) (h3 : ¬ x = 3) (h4 : ¬ x = 4) (h5 : ¬ x = 5) (h6 : ¬ x = 6) (h7 : ¬ x = 7) : x.toInt < 0 ∨ 7 < x.toInt := by
  have e0 : x.toInt ≠ 0 := fun h => h0 (Int32.toInt_inj.mp h)
  have e1 : x.toInt ≠ 1 := fun h => h1 (Int32.toInt_inj.mp h)
  have e2 : x.toInt ≠ 2 := fun h => h2 (Int32.toInt_inj.mp h)
  have e3 : x.toInt ≠ 3 := fun h => h3 (Int32.toInt_inj.mp h)
  have e4 : x.toInt ≠ 4 := fun h => h4 (Int32.toInt_inj.mp h)
  have e5 : x.toInt ≠ 5 := fun h => h5 (Int32.toInt_inj.mp h)
  have e6 : x.toInt ≠ 6 := fun h => h6 (Int32.toInt_inj.mp h)
  have e7 : x.toInt ≠ 7 := fun h => h7 (Int32.toInt_inj.mp h)
  omega

theorem tab_out19 {x : Int32} (h0 : ¬ x = 0) (h1 : ¬ x = 1) (h2 : ¬ x = 2) (h3 : ¬ x = 3) (h4 : ¬ x = 4) (h5 : ¬ x = 5) (h6 : ¬ x = 6) (h7 : ¬ x = 7) (h8 : ¬ x = 8) (h9 : ¬ x = 9) (h10 : ¬ x = 10) (h11 : ¬ x = 11) (h12 : ¬ x = 12) (h13 : ¬ x = 13) (h14 : ¬ x = 14) (h15 : ¬ x = 15) (h16 : ¬ x = 16) (h17 : ¬ x = 17) (h18 : ¬ x = 18) : x.toInt < 0 ∨ 18 < x.toInt := by
  have e0 : x.toInt ≠ 0 := fun h => h0 (Int32.toInt_inj.mp h)
  have e1 : x.toInt ≠ 1 := fun h => h1 (Int32.toInt_inj.mp h)
  have e2 : x.toInt ≠ 2 := fun h => h2 (Int32.toInt_inj.mp h)
  have e3 : x.toInt ≠ 3 := fun h => h3 (Int32.toInt_inj.mp h)
  have e4 : x.toInt ≠ 4 := fun h => h4 (Int32.toInt_inj.mp h)
  have e5 : x.toInt ≠ 5 := fun h => h5 (Int32.toInt_inj.mp h)
  have e6 : x.toInt ≠ 6 := fun h => h6 (Int32.toInt_inj.mp h)
  have e7 : x.toInt ≠ 7 := fun h => h7 (Int32.toInt_inj.mp h)
  have e8 : x.toInt ≠ 8 := fun h => h8 (Int32.toInt_inj.mp h)
  have e9 : x.toInt ≠ 9 := fun h => h9 (Int32.toInt_inj.mp h)
  have e10 : x.toInt ≠ 10 := fun h => h10 (Int32.toInt_inj.mp h)
  have e11 : x.toInt ≠ 11 := fun h => h11 (Int32.toInt_inj.mp h)
  have e12 : x.toInt ≠ 12 := fun h => h12 (Int32.toInt_inj.mp h)
  have e13 : x.toInt ≠ 13 := fun h => h13 (Int32.toInt_inj.mp h)
  have e14 : x.toInt ≠ 14 := fun h => h14 (Int32.toInt_inj.mp h)
  have e15 : x.toInt ≠ 15 := fun h => h15 (Int32.toInt_inj.mp h)
  have e16 : x.toInt ≠ 16 := fun h => h16 (Int32.toInt_inj.mp h)
  have e17 : x.toInt ≠ 17 := fun h => h17 (Int32.toInt_inj.mp h)
  have e18 : x.toInt ≠ 18 := fun h => h18 (Int32.toInt_inj.mp h)
  omega

theorem look_out2 {x : Int32} {a b d : Int} (h0 : ¬ x = 0) (h1 : ¬ x = 1) : Op.lookupswitch.offset [(0, a), (1, b)] d x.toInt = d := by
  have e0 : x.toInt ≠ 0 := fun h => h0 (Int32.toInt_inj.mp h)
  have e1 : x.toInt ≠ 1 := fun h => h1 (Int32.toInt_inj.mp h)
  simp [Op.lookupswitch.offset, e0.symm, e1.symm]

abbrev rm_X7_init : Room := { frames := 1, cells := 0, slots := 0, locals := 12 }
theorem inw_X7_init_7 : ∀ w ∈ wsX70, w ∈ wsX7_init := by decide +kernel
set_option maxHeartbeats 800000 in
set_option maxRecDepth 100000 in
theorem c_X7_init (l : Launch) (dC : Nat → ClassId) (dI : Nat → Nat → Nat) (sa : Nat → Nat) (hlt : l.stackTraces = false) (sz : Nat) (h0 : Nat) (n : Int32) : CT l dC dI sa yX7_init wsX7_init rm_X7_init [.ref h0, .int n] [(h0, .inr (7, [.int 0, .int 0, .int 0, .int 0, .int 0, .int 0, .int 0, .int 0]))] [] sz (fun (r : Option Value) (_ : Unit) => r = none ∧ (True)) (fun (_ : Unit) => [(h0, .inr (7, [.int n, .int 0, .int 0, .int 0, .int 2, .int 0, .int 0, .int (-2)]))]) (fun (_ : Unit) => []) 0 0 := by
  refine CT.start (cc := cX7_init) (maxL := 2) (ret := none) (by decide) rfl (Nat.le_of_ble_eq_true rfl) ?_
  intro p e s m below meth c ls hst hP hK hD hev hS hl
  obtain ⟨hx, hb, hr, hml, hts, hown, hlocks, hin⟩ := hst
  have hown : s.vm.findClass RX7 = some m.cls := hown
  have hin : meth.name = yX7_init.name := hin
  have hA : ∀ q : Nat, s.heap.size ≤ q → va_A [(h0, .inr (7, [.int 0, .int 0, .int 0, .int 0, .int 0, .int 0, .int 0, .int 0]))] s.heap.size q := fun _ h => Or.inr h
  have hl : lv_has ls 2 [(0, .ref h0), (1, .int n)] := hl
  refine lv_aload_n hx hb dX7_init_0 rfl (lv_at hl 0 rfl) ?_
  refine W.objInit hx hb hown (hts (.methodLink RX7 3 objectInit) (by decide +kernel)) (hts (.instanceMethod objectInit) (by decide +kernel)) (hts (.code objectInit ⟨#[0xb1]⟩ 1 none) (by decide +kernel)) rfl (by rw [hml]; exact hl.1) rfl dX7_init_1 (Nat.le_of_ble_eq_true rfl) (Nat.le_of_ble_eq_true rfl) ?_
  refine W.eq (g2 := F0 m 4 ls []) rfl ?_
  refine lv_aload_n hx hb dX7_init_4 rfl (lv_at hl 0 rfl) ?_
  refine lv_iconst (v := 2) hx hb dX7_init_5 (by decide) ?_
  refine va_put (D := (dC, dI)) (ci := 7) (v := .int 2) (ty := .int) (C := RX7) (T := TX7) (N := 8) hx hb hts inw_X7_init_7 tyX7 tyX7_ok nmX7 hown hK hP hD hS 0 rfl rfl 4 (by decide) (hts (.fieldLink RX7 9 "VatHouse$Vat" "state" "I") (by decide +kernel)) (fun _ h9 => h9) rfl (by decide +kernel) rfl rfl (Nat.le_of_ble_eq_true rfl) dX7_init_6 (fun H locs hP hD hS => ?_)
  have hP : va_P (dC, dI) vwCl [(h0, .inr (7, [.int 0, .int 0, .int 0, .int 0, .int 2, .int 0, .int 0, .int 0]))] _ := hP
  have hD : va_D _ [(h0, .inr (7, [.int 0, .int 0, .int 0, .int 0, .int 2, .int 0, .int 0, .int 0]))] := hD
  refine lv_aload_n hx hb dX7_init_9 rfl (lv_at hl 0 rfl) ?_
  refine lv_bipush (v := (-2)) hx hb dX7_init_10 (by decide) ?_
  refine va_put (D := (dC, dI)) (ci := 7) (v := .int (-2)) (ty := .int) (C := RX7) (T := TX7) (N := 8) hx hb hts inw_X7_init_7 tyX7 tyX7_ok nmX7 hown hK hP hD hS 0 rfl rfl 7 (by decide) (hts (.fieldLink RX7 15 "VatHouse$Vat" "lastDipped" "I") (by decide +kernel)) (fun _ h9 => h9) rfl (by decide +kernel) rfl rfl (Nat.le_of_ble_eq_true rfl) dX7_init_12 (fun H locs hP hD hS => ?_)
  have hP : va_P (dC, dI) vwCl [(h0, .inr (7, [.int 0, .int 0, .int 0, .int 0, .int 2, .int 0, .int 0, .int (-2)]))] _ := hP
  have hD : va_D _ [(h0, .inr (7, [.int 0, .int 0, .int 0, .int 0, .int 2, .int 0, .int 0, .int (-2)]))] := hD
  refine lv_aload_n hx hb dX7_init_15 rfl (lv_at hl 0 rfl) ?_
  refine lv_iload_n hx hb dX7_init_16 rfl (lv_at hl 1 rfl) ?_
  refine va_putF (D := (dC, dI)) (ci := 7) (v := .int n) (ty := .int) (C := RX7) (T := TX7) (N := 8) hx hb hts inw_X7_init_7 tyX7 tyX7_ok nmX7 hown hK hP hD hS 0 rfl rfl 0 (by decide) (hts (.fieldLink RX7 18 "VatHouse$Vat" "number" "I") (by decide +kernel)) (fun _ h9 => h9) rfl hin rfl (by decide +kernel) rfl rfl (Nat.le_of_ble_eq_true rfl) dX7_init_17 (fun H locs hP hD hS => ?_)
  have hP : va_P (dC, dI) vwCl [(h0, .inr (7, [.int n, .int 0, .int 0, .int 0, .int 2, .int 0, .int 0, .int (-2)]))] _ := hP
  have hD : va_D _ [(h0, .inr (7, [.int n, .int 0, .int 0, .int 0, .int 2, .int 0, .int 0, .int (-2)]))] := hD
  exact en_v hx hb hr hlocks hP hD hK hS () ⟨rfl, trivial⟩ [0] [] rfl rfl rfl (Nat.le_of_ble_eq_true rfl) (Nat.le_of_ble_eq_true rfl) dX7_init_20

abbrev rm_X0_init : Room := { frames := 1, cells := 0, slots := 0, locals := 12 }
theorem inw_X0_init_0 : ∀ w ∈ wsX00, w ∈ wsX0_init := by decide +kernel
set_option maxHeartbeats 800000 in
set_option maxRecDepth 100000 in
theorem c_X0_init (l : Launch) (dC : Nat → ClassId) (dI : Nat → Nat → Nat) (sa : Nat → Nat) (hlt : l.stackTraces = false) (sz : Nat) (h0 : Nat) (n : Int32) (wt : Int32) : CT l dC dI sa yX0_init wsX0_init rm_X0_init [.ref h0, .int n, .int wt] [(h0, .inr (0, [.int 0, .int 0, .int 0, .int 0, .int 0, .int 0, .int 0, .int 0]))] [] sz (fun (r : Option Value) (_ : Unit) => r = none ∧ (True)) (fun (_ : Unit) => [(h0, .inr (0, [.int n, .int wt, .int 0, .int 0, .int 0, .int (-1), .int 0, .int 0]))]) (fun (_ : Unit) => []) 0 0 := by
  refine CT.start (cc := cX0_init) (maxL := 3) (ret := none) (by decide) rfl (Nat.le_of_ble_eq_true rfl) ?_
  intro p e s m below meth c ls hst hP hK hD hev hS hl
  obtain ⟨hx, hb, hr, hml, hts, hown, hlocks, hin⟩ := hst
  have hown : s.vm.findClass RX0 = some m.cls := hown
  have hin : meth.name = yX0_init.name := hin
  have hA : ∀ q : Nat, s.heap.size ≤ q → va_A [(h0, .inr (0, [.int 0, .int 0, .int 0, .int 0, .int 0, .int 0, .int 0, .int 0]))] s.heap.size q := fun _ h => Or.inr h
  have hl : lv_has ls 3 [(0, .ref h0), (1, .int n), (2, .int wt)] := hl
  refine lv_aload_n hx hb dX0_init_0 rfl (lv_at hl 0 rfl) ?_
  refine W.objInit hx hb hown (hts (.methodLink RX0 3 objectInit) (by decide +kernel)) (hts (.instanceMethod objectInit) (by decide +kernel)) (hts (.code objectInit ⟨#[0xb1]⟩ 1 none) (by decide +kernel)) rfl (by rw [hml]; exact hl.1) rfl dX0_init_1 (Nat.le_of_ble_eq_true rfl) (Nat.le_of_ble_eq_true rfl) ?_
  refine W.eq (g2 := F0 m 4 ls []) rfl ?_
  refine lv_aload_n hx hb dX0_init_4 rfl (lv_at hl 0 rfl) ?_
  refine lv_iconst (v := (-1)) hx hb dX0_init_5 (by decide) ?_
  refine va_put (D := (dC, dI)) (ci := 0) (v := .int (-1)) (ty := .int) (C := RX0) (T := TX0) (N := 8) hx hb hts inw_X0_init_0 tyX0 tyX0_ok nmX0 hown hK hP hD hS 0 rfl rfl 5 (by decide) (hts (.fieldLink RX0 9 "VatHouse$Cloth" "day" "I") (by decide +kernel)) (fun _ h9 => h9) rfl (by decide +kernel) rfl rfl (Nat.le_of_ble_eq_true rfl) dX0_init_6 (fun H locs hP hD hS => ?_)
  have hP : va_P (dC, dI) vwCl [(h0, .inr (0, [.int 0, .int 0, .int 0, .int 0, .int 0, .int (-1), .int 0, .int 0]))] _ := hP
  have hD : va_D _ [(h0, .inr (0, [.int 0, .int 0, .int 0, .int 0, .int 0, .int (-1), .int 0, .int 0]))] := hD
  refine lv_aload_n hx hb dX0_init_9 rfl (lv_at hl 0 rfl) ?_
  refine lv_iload_n hx hb dX0_init_10 rfl (lv_at hl 1 rfl) ?_
  refine va_putF (D := (dC, dI)) (ci := 0) (v := .int n) (ty := .int) (C := RX0) (T := TX0) (N := 8) hx hb hts inw_X0_init_0 tyX0 tyX0_ok nmX0 hown hK hP hD hS 0 rfl rfl 0 (by decide) (hts (.fieldLink RX0 15 "VatHouse$Cloth" "number" "I") (by decide +kernel)) (fun _ h9 => h9) rfl hin rfl (by decide +kernel) rfl rfl (Nat.le_of_ble_eq_true rfl) dX0_init_11 (fun H locs hP hD hS => ?_)
  have hP : va_P (dC, dI) vwCl [(h0, .inr (0, [.int n, .int 0, .int 0, .int 0, .int 0, .int (-1), .int 0, .int 0]))] _ := hP
  have hD : va_D _ [(h0, .inr (0, [.int n, .int 0, .int 0, .int 0, .int 0, .int (-1), .int 0, .int 0]))] := hD
  refine lv_aload_n hx hb dX0_init_14 rfl (lv_at hl 0 rfl) ?_
  refine lv_iload_n hx hb dX0_init_15 rfl (lv_at hl 2 rfl) ?_
  refine va_put (D := (dC, dI)) (ci := 0) (v := .int wt) (ty := .int) (C := RX0) (T := TX0) (N := 8) hx hb hts inw_X0_init_0 tyX0 tyX0_ok nmX0 hown hK hP hD hS 0 rfl rfl 1 (by decide) (hts (.fieldLink RX0 18 "VatHouse$Cloth" "weight" "I") (by decide +kernel)) (fun _ h9 => h9) rfl (by decide +kernel) rfl rfl (Nat.le_of_ble_eq_true rfl) dX0_init_16 (fun H locs hP hD hS => ?_)
  have hP : va_P (dC, dI) vwCl [(h0, .inr (0, [.int n, .int wt, .int 0, .int 0, .int 0, .int (-1), .int 0, .int 0]))] _ := hP
  have hD : va_D _ [(h0, .inr (0, [.int n, .int wt, .int 0, .int 0, .int 0, .int (-1), .int 0, .int 0]))] := hD
  exact en_v hx hb hr hlocks hP hD hK hS () ⟨rfl, trivial⟩ [0] [] rfl rfl rfl (Nat.le_of_ble_eq_true rfl) (Nat.le_of_ble_eq_true rfl) dX0_init_19
