theorem i8 (y : Int32) : (y.toInt8.toInt32).toInt = Int.bmod y.toInt 256 := by
  simp

noncomputable def bM (x : Int32) (i : Nat) : Int32 := (x >>> ((24 - 8 * nI i) &&& 31)) &&& 255
noncomputable def LAX (t t1 : Nat → Int32) (tl k1 sh fb : Int32) : Prop := ∀ nn : Nat, tl = nI nn → nn ≤ 1496 → ∃ i : Nat, i ≤ 4 ∧ sh = 24 - 8 * nI i ∧ k1 = nI (nn + i) ∧ t1 = apF bM t nn fb i
theorem LAX.nx {t t1 t2 : Nat → Int32} {tl k1 k2 sh fb z1 z2 : Int32} (h : LAX t t1 tl k1 sh fb) (h0 : ¬ sh < 0) (hz1 : z1 = fb >>> (sh &&& 31)) (hz2 : z2 = z1 &&& 255) (hf : t2 = upd t1 k1.toNatClampNeg z2) (hk : k2 = k1 + 1) : LAX t t2 tl k2 (sh + -8) fb := by
  intro nn h1 h2
  obtain ⟨i, g1, g2, g3, g4⟩ := h nn h1 h2
  rw [g2, shv_4 i (by omega)] at h0
  refine ⟨i + 1, by omega, by rw [g2]; exact shv_nx i (by omega), by rw [hk, g3]; exact nI_1 _, ?_⟩
  rw [hf, g3, nI_clamp (by omega), g4, hz2, hz1, g2]
  rfl
theorem LAX.e {t t1 : Nat → Int32} {tl k1 sh fb : Int32} (h : LAX t t1 tl k1 sh fb) (h0 : sh < 0) (nn : Nat) (h1 : tl = nI nn) (h2 : nn ≤ 1496) : k1 = nI (nn + 4) ∧ t1 = apF bM t nn fb 4 := by
  obtain ⟨i, g1, g2, g3, g4⟩ := h nn h1 h2
  rw [g2, shv_4 i (by omega)] at h0
  subst h0
  exact ⟨g3, g4⟩




noncomputable abbrev rm_X10_thrownX : Room := { frames := 0, cells := 0, slots := 0, locals := 0 }
theorem inw_X10_thrown_10 : ∀ w ∈ wsX100, w ∈ wsX10_thrown := fun _ h => List.mem_cons_of_mem _ (List.mem_append_right _ h)
set_option maxHeartbeats 1000000 in
set_option maxRecDepth 100000 in
theorem m_X10_thrownX (l : Launch) (dC : Nat → ClassId) (dI : Nat → Nat → Nat) (sa : Nat → Nat) (g : Nat → Nat) (h0 : Nat) (b : Nat → Nat) (i : Nat → Int32) (a : Nat → Nat → Int32) (sz : Nat) : CT l dC dI sa yX10_thrown wsX10_thrown rm_X10_thrownX [.ref h0] (mw g h0 b i a) (tyM g) sz (fun (r : Option Value) (_ : Unit) => (∃ z : Int32, r = some (.int z) ∧ (z = (i 0))) ∧ (True)) (fun (_ : Unit) => mw g h0 b i a) (fun _ => []) 0 0 := by
  refine CT.start (cc := cX10_thrown) (maxL := 1) (ret := (some .int)) (by decide) rfl (Nat.le_of_ble_eq_true rfl) ?_
  intro p e s m below meth c ls hst hP hK hD hev hS hl
  obtain ⟨hx, hb, hr, hml, hts, hown, hlocks, hin⟩ := hst
  have hown : s.vm.findClass RX10 = some m.cls := hown
  have hA : ∀ q : Nat, s.heap.size ≤ q → va_A (mw g h0 b i a) s.heap.size q := fun _ h => Or.inr h
  have hl : lv_has ls 1 [(0, .ref h0)] := hl
  refine lv_aload_n hx hb dX10_thrown_0 rfl (lv_at hl 0 rfl) ?_
  refine va_get (D := (dC, dI)) (ci := 10) (v := .int (i 0)) (C := RX10) (T := TX10) (N := 51) hx hb hts inw_X10_thrown_10 hown hK hP 0 rfl rfl 0 (by decide) (hts (.fieldLink RX10 105 "VatHouseModel" "thrown" "I") (List.mem_of_getElem? (i := 1) (by exact rfl))) (fun _ h9 => h9) rfl dX10_thrown_1 ?_
  exact M_i hx hb hr hlocks () hP hD hK hS ⟨⟨_, rfl, rfl⟩, trivial⟩ (Nat.le_of_ble_eq_true rfl) (Nat.le_of_ble_eq_true rfl) dX10_thrown_4
