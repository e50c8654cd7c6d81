/-! String.length, String.charAt of String constants: methods that leave the heap alone -/
/-- a method that returns v and changes nothing -/
noncomputable def PU (l : Launch) (dC : Nat → ClassId) (dI : Nat → Nat → Nat) (sa : Nat → Nat) (y : MethodName) (ws : List Cond) (rm : Room) (av : List Value) (sz : Nat) (v : Option Value) : Prop :=
  CT l dC dI sa y ws rm av [] [] sz (fun r (_ : Unit) => r = v) (fun _ => []) (fun _ => []) 0 0
section PUR
variable {p : Program} {l : Launch} {e : Env} {R : Room} {s : State} {m : MethodId} {args : Array Value} {below : List Frame} {meth : Method} {c : Code} {H : Heap} {locs : List Loc} {cells slots : Nat} {Q : State → Prop}
variable {dC : Nat → ClassId} {dI : Nat → Nat → Nat} {sa : Nat → Nat} {A : Nat → Prop} {w : va_W} {tys : List (ClassId × FieldType)} {v : Option Value}
variable {y : MethodName} {bytes cc : ByteArray} {maxL nL n index : Nat} {ret : Option FieldType} {ws : List Cond} {rm : Room} {Ts : List Cond} {own Cn : String} {b : Addr} {As rest st0 : List Value} {pc : Nat} {ls : Array Slot} {av : List Value}
theorem pu_run (hr : va_Run p l e R s m args below meth c H locs cells slots 0 0 (F0 m pc ls st0) rest (Qg (fun r (_ : Unit) => r = v) (fun _ t => QW dC dI (va_A [] H.size) [] [] t) (va_A [] H.size) av.toArray) (va_A [] H.size))
    (hP : va_P (dC, dI) vwCl w H) (hS : va_S A s.heap H locs) (hA : ∀ q, s.heap.size ≤ q → A q)
    (kk : ∀ (H1 : Heap) (locs1 : List Loc), va_P (dC, dI) vwCl w H1 → va_S A s.heap H1 locs1 → W p l e R s m args below meth c H1 locs1 cells slots Q (F0 m (pc + 3) ls (v.toList ++ rest))) :
    W p l e R s m args below meth c H locs cells slots Q (F0 m pc ls st0) := by
  intro T hT0 X
  have hFc : ∀ q, va_A [] H.size q → A q := fun q h => by
    rcases h with ⟨k, e, h⟩ | h
    · cases h
    · exact hA q (Nat.le_trans hS.1 h)
  obtain ⟨v', st₀, t, T', Lo, h0, X', hL, e1, e2, ⟨⟨r, u, hv, hp, hb⟩, hF⟩, st⟩ := hr T hT0 X
  cases hv
  subst hp
  obtain ⟨k1, k2, k3⟩ := vx_keep h0 e1 hS (fun q _ h => hFc q h) hFc hL hF
  have hP1 : va_P (dC, dI) vwCl w T'.heap := hP.kept (fun k q hq => by
    have hlt := (hP k q hq).lt
    rw [e1, ← h0]
    refine hF.2 q.1 (by rw [h0]; exact hlt) ?_
    rintro (⟨k, e, h⟩ | h)
    · cases h
    · omega)
  obtain ⟨t2, a1, b1⟩ := kk T'.heap (locs ++ Lo) hP1 k3 T' rfl X'
  exact ⟨t2, st t2 a1, b1⟩
theorem pu_at (hK : va_K (dC, dI) vwCl tys s) (hS : va_S A s.heap H locs) (hA : ∀ q, s.heap.size ≤ q → A q) (hev : ev sa A s s.heap) : ∀ U : State, U.heap = H → s.WarmedH U.vm → PW dC dI sa [] [] H.size U := by
  intro U hU hW
  refine ⟨by rw [hU], (fun k q h => by cases h), va_K.moved hW.alike (hK.sub [] rfl), ⟨(fun i j p q h => by cases h), (fun k q h => by cases h)⟩, ?_⟩
  rw [hU]
  refine ev.go hW hev (fun a h1 h2 => hS.2.1 a h1 h2) (fun q h => ?_)
  rcases h with ⟨k, e, h⟩ | h
  · cases h
  · exact hA q (Nat.le_trans hS.1 h)
/-- a call upon the String constant i -/
theorem pu_V {i : Nat} (C0 : CallFix p m c cc nL s args Ts own) (M : PU l dC dI sa y ws rm (.ref (sa (5 + i)) :: As) H.size v) (cw : CallW R s args own "java/lang/String" index y bytes maxL ret ws rm 0 0 n)
    (hP : va_P (dC, dI) vwCl w H) (hK : va_K (dC, dI) vwCl tys s) (hS : va_S A s.heap H locs) (hA : ∀ q, s.heap.size ≤ q → A q) (hev : ev sa A s s.heap) (hi : i < 20)
    (hn0 : As.length = n) (hsz : ls.size = nL) (hst : st0 = As.reverse ++ .ref (sa (5 + i)) :: rest) (hW : (rest.map fun v => v.category).sum ≤ 8) (hdg : decode cc pc = .ok (.invokevirtual index, 3)) (hf : cells + 0 ≤ R.cells ∧ slots + 0 ≤ R.slots)
    (kk : ∀ (H1 : Heap) (locs1 : List Loc), va_P (dC, dI) vwCl w H1 → va_S A s.heap H1 locs1 → W p l e R s m args below meth c H1 locs1 cells slots Q (F0 m (pc + 3) ls (v.toList ++ rest))) :
    W p l e R s m args below meth c H locs cells slots Q (F0 m pc ls st0) := by
  have hat := pu_at hK hS hA hev
  exact pu_run (av := .ref (sa (5 + i)) :: As) (va_runV C0 M cw ⟨PW.blind, vk_recv (adK := fun i => sa (5 + i)) (i := i) hev.2.2.2.2.2.1 hi hS, fun U hU hW => ⟨rfl, hat U hU hW⟩⟩ rfl hn0 hsz hst (lv_room hW) hdg hf) hP hS hA kk
theorem pu_S (C0 : CallFix p m c cc nL s args Ts own) (M : PU l dC dI sa y ws rm As H.size v) (cw : CallB R s args own index y bytes maxL ret ws rm 0 0 n ∧ (Cond.static y).before args s = true)
    (hP : va_P (dC, dI) vwCl w H) (hK : va_K (dC, dI) vwCl tys s) (hS : va_S A s.heap H locs) (hA : ∀ q, s.heap.size ≤ q → A q) (hev : ev sa A s s.heap)
    (hn0 : As.length = n) (hsz : ls.size = nL) (hst : st0 = As.reverse ++ rest) (hW : (rest.map fun v => v.category).sum ≤ 8) (hdg : decode cc pc = .ok (.invokestatic index, 3)) (hf : cells + 0 ≤ R.cells ∧ slots + 0 ≤ R.slots)
    (kk : ∀ (H1 : Heap) (locs1 : List Loc), va_P (dC, dI) vwCl w H1 → va_S A s.heap H1 locs1 → W p l e R s m args below meth c H1 locs1 cells slots Q (F0 m (pc + 3) ls (v.toList ++ rest))) :
    W p l e R s m args below meth c H locs cells slots Q (F0 m pc ls st0) := by
  have hat := pu_at hK hS hA hev
  exact pu_run (av := As) (va_runS C0 M cw ⟨PW.blind, fun U hU hW => ⟨rfl, hat U hU hW⟩⟩ rfl hn0 hsz hst (lv_room hW) hdg hf) hP hS hA kk
end PUR
/-- the char at k of the constant i -/
noncomputable def chS (i k : Nat) : Int32 := (bytS.getD i []).getD k 0 &&& 255
theorem lenS_small : ∀ i : Nat, i < 20 → lenS.getD i 0 < 2 ^ 31 := by decide +kernel
noncomputable abbrev rmJ (k : Nat) : Room := { frames := k, cells := 0, slots := 0, locals := 40 * k }
theorem pu_J3 (l : Launch) (dC : Nat → ClassId) (dI : Nat → Nat → Nat) (sa : Nat → Nat) (x n : Int32) (q : Option Nat) (sz : Nat) (h0 : ¬ x < 0) (h1 : x < n) : PU l dC dI sa yJ3_checkIndex_8e157 wsJ3_checkIndex_8e157 (rmJ 0) [.int x, .int n, va_rf q] sz (some (.int x)) := by
  have go : ∀ fv : Value, (fv = .null ∨ ∃ t : Nat, fv = .ref t) → PU l dC dI sa yJ3_checkIndex_8e157 wsJ3_checkIndex_8e157 (rmJ 0) [.int x, .int n, fv] sz (some (.int x)) := by
    intro fv hfv
    rcases hfv with rfl | ⟨t, rfl⟩
    · refine CT.start (cc := cJ3_checkIndex_8e157) (maxL := 3) (ret := (some .int)) (by decide) rfl (Nat.le_of_ble_eq_true rfl) ?_
      intro p e s m below meth c ls hst hP hK hD hev hS hl
      obtain ⟨hx, hb, hr, hml, hts, hown, hlocks, hin⟩ := hst
      have hl : lv_has ls 3 [(0, .int x), (1, .int n), (2, .null)] := hl
      refine lv_iload_n hx hb dJ3_checkIndex_8e157_0 rfl (lv_at hl 0 rfl) ?_
      refine lv_if_lt (tgt := 9) hx hb dJ3_checkIndex_8e157_1 (by decide) (fun c1 => absurd c1 h0) (fun c1 => ?_)
      refine lv_iload_n hx hb dJ3_checkIndex_8e157_4 rfl (lv_at hl 0 rfl) ?_
      refine lv_iload_n hx hb dJ3_checkIndex_8e157_5 rfl (lv_at hl 1 rfl) ?_
      refine lv_icmp_lt (tgt := 16) hx hb dJ3_checkIndex_8e157_6 (by decide) (fun c1 => ?_) (fun c1 => absurd h1 c1)
      refine lv_iload_n hx hb dJ3_checkIndex_8e157_16 rfl (lv_at hl 0 rfl) ?_
      exact en_i hx hb hr hlocks hP hD hK hS () rfl [] [] rfl rfl rfl (Nat.le_of_ble_eq_true rfl) (Nat.le_of_ble_eq_true rfl) dJ3_checkIndex_8e157_17
    · refine CT.start (cc := cJ3_checkIndex_8e157) (maxL := 3) (ret := (some .int)) (by decide) rfl (Nat.le_of_ble_eq_true rfl) ?_
      intro p e s m below meth c ls hst hP hK hD hev hS hl
      obtain ⟨hx, hb, hr, hml, hts, hown, hlocks, hin⟩ := hst
      have hl : lv_has ls 3 [(0, .int x), (1, .int n), (2, .ref t)] := hl
      refine lv_iload_n hx hb dJ3_checkIndex_8e157_0 rfl (lv_at hl 0 rfl) ?_
      refine lv_if_lt (tgt := 9) hx hb dJ3_checkIndex_8e157_1 (by decide) (fun c1 => absurd c1 h0) (fun c1 => ?_)
      refine lv_iload_n hx hb dJ3_checkIndex_8e157_4 rfl (lv_at hl 0 rfl) ?_
      refine lv_iload_n hx hb dJ3_checkIndex_8e157_5 rfl (lv_at hl 1 rfl) ?_
      refine lv_icmp_lt (tgt := 16) hx hb dJ3_checkIndex_8e157_6 (by decide) (fun c1 => ?_) (fun c1 => absurd h1 c1)
      refine lv_iload_n hx hb dJ3_checkIndex_8e157_16 rfl (lv_at hl 0 rfl) ?_
      exact en_i hx hb hr hlocks hP hD hK hS () rfl [] [] rfl rfl rfl (Nat.le_of_ble_eq_true rfl) (Nat.le_of_ble_eq_true rfl) dJ3_checkIndex_8e157_17
  cases q with
  | none => exact go .null (Or.inl rfl)
  | some t => exact go (.ref t) (Or.inr ⟨t, rfl⟩)
theorem pu_J0check (l : Launch) (dC : Nat → ClassId) (dI : Nat → Nat → Nat) (sa : Nat → Nat) (x n : Int32) (sz : Nat) (h0 : ¬ x < 0) (h1 : x < n) : PU l dC dI sa yJ0_checkIndex_df160 wsJ0_checkIndex_df160 (rmJ 1) [.int x, .int n] sz none := by
  refine CT.start (cc := cJ0_checkIndex_df160) (maxL := 2) (ret := none) (by decide) rfl (Nat.le_of_ble_eq_true rfl) ?_
  intro p e s m below meth c ls hst hP hK hD hev hS hl
  obtain ⟨hx, hb, hr, hml, hts, hown, hlocks, hin⟩ := hst
  have hown : s.vm.findClass RJ0 = some m.cls := hown
  have hA : ∀ q : Nat, s.heap.size ≤ q → va_A [] s.heap.size q := fun _ h => Or.inr h
  have hl : lv_has ls 2 [(0, .int x), (1, .int n)] := hl
  refine lv_iload_n hx hb dJ0_checkIndex_df160_0 rfl (lv_at hl 0 rfl) ?_
  refine lv_iload_n hx hb dJ0_checkIndex_df160_1 rfl (lv_at hl 1 rfl) ?_
  have fin : ∀ q : Option Nat, W p l e (rmJ 1) s m [Value.int x, Value.int n].toArray below meth c s.heap [] 0 0 (MQ below (Qg (fun r (_ : Unit) => r = none) (fun u t => QW dC dI (va_A [] s.heap.size) [] [] t) (va_A [] s.heap.size)) [Value.int x, Value.int n].toArray s 0 0 (va_A [] s.heap.size)) (F0 m 5 ls [va_rf q, .int n, .int x]) := by
    intro q
    refine pu_S ⟨hx, hb, hml, hown, hts⟩ (pu_J3 l dC dI sa x n q _ h0 h1) (va_cwS 3 hts gJ0_checkIndex_df160_J3_checkIndex_8e157 rfl rfl rfl (by decide +kernel) ⟨Nat.le_of_ble_eq_true rfl, Nat.le_of_ble_eq_true rfl⟩) hP hK hS hA hev rfl hl.1 rfl (Nat.le_of_ble_eq_true rfl) dJ0_checkIndex_df160_5 ⟨Nat.le_of_ble_eq_true rfl, Nat.le_of_ble_eq_true rfl⟩ (fun H locs hP hS => ?_)
    refine W.eq (g2 := F0 m 8 ls [.int x]) rfl ?_
    refine lv_pop hx hb dJ0_checkIndex_df160_8 rfl ?_
    exact en_v hx hb hr hlocks hP hD hK hS () rfl [] [] rfl rfl rfl (Nat.le_of_ble_eq_true rfl) (Nat.le_of_ble_eq_true rfl) dJ0_checkIndex_df160_9
  rcases hev.2.2.2.2.2.2.2.1 with hz | ⟨t, hz⟩
  · exact va_gets hx hb hz hS hown (hts (.fieldLink RJ0 1053 "jdk/internal/util/Preconditions" "SIOOBE_FORMATTER" "Ljava/util/function/BiFunction;") (List.mem_of_getElem? (i := 1) (by exact rfl))) (fun _ h => h) dJ0_checkIndex_df160_2 (fin none)
  · exact va_gets hx hb hz hS hown (hts (.fieldLink RJ0 1053 "jdk/internal/util/Preconditions" "SIOOBE_FORMATTER" "Ljava/util/function/BiFunction;") (List.mem_of_getElem? (i := 1) (by exact rfl))) (fun _ h => h) dJ0_checkIndex_df160_2 (fin (some t))
theorem pu_J1char (l : Launch) (dC : Nat → ClassId) (dI : Nat → Nat → Nat) (sa : Nat → Nat) (i k : Nat) (sz : Nat) (hi : i < 20) (hk : k < lenS.getD i 0) : PU l dC dI sa yJ1_charAt_3b067 wsJ1_charAt_3b067 (rmJ 2) [.ref (sa (25 + i)), .int (nI k)] sz (some (.int (chS i k))) := by
  have hL := lenS_small i hi
  refine CT.start (cc := cJ1_charAt_3b067) (maxL := 2) (ret := (some .char)) (by decide) rfl (Nat.le_of_ble_eq_true rfl) ?_
  intro p e s m below meth c ls hst hP hK hD hev hS hl
  obtain ⟨hx, hb, hr, hml, hts, hown, hlocks, hin⟩ := hst
  have hown : s.vm.findClass RJ1 = some m.cls := hown
  have hA : ∀ q : Nat, s.heap.size ≤ q → va_A [] s.heap.size q := fun _ h => Or.inr h
  have hl : lv_has ls 2 [(0, .ref (sa (25 + i))), (1, .int (nI k))] := hl
  refine lv_iload_n hx hb dJ1_charAt_3b067_0 rfl (lv_at hl 1 rfl) ?_
  refine lv_aload_n hx hb dJ1_charAt_3b067_1 rfl (lv_at hl 0 rfl) ?_
  refine va_tlen hx hb (hev.2.2.2.2.2.1.1 i hi).2.2.2 hS (v := nI (lenS.getD i 0)) rfl dJ1_charAt_3b067_2 ?_
  refine pu_S ⟨hx, hb, hml, hown, hts⟩ (pu_J0check l dC dI sa (nI k) (nI (lenS.getD i 0)) _ (nI_pos (by omega)) (nI_lt hk hL)) (va_cwS 2 hts gJ1_charAt_3b067_J0_checkIndex_df160 rfl rfl rfl (by decide +kernel) ⟨Nat.le_of_ble_eq_true rfl, Nat.le_of_ble_eq_true rfl⟩) hP hK hS hA hev rfl hl.1 rfl (Nat.le_of_ble_eq_true rfl) dJ1_charAt_3b067_3 ⟨Nat.le_of_ble_eq_true rfl, Nat.le_of_ble_eq_true rfl⟩ (fun H locs hP hS => ?_)
  refine W.eq (g2 := F0 m 6 ls []) rfl ?_
  refine lv_aload_n hx hb dJ1_charAt_3b067_6 rfl (lv_at hl 0 rfl) ?_
  refine lv_iload_n hx hb dJ1_charAt_3b067_7 rfl (lv_at hl 1 rfl) ?_
  refine va_tb hx hb (hev.2.2.2.2.2.1.1 i hi).2.2.2 hS (vp_in_nI hk hL) (v := .int ((bytS.getD i []).getD k 0)) (by rw [nI_clamp (by omega)]) dJ1_charAt_3b067_8 ?_
  refine lv_sipush (v := 255) hx hb dJ1_charAt_3b067_9 (by decide) ?_
  refine lv_iand hx hb dJ1_charAt_3b067_12 ?_
  refine lv_i2c (v := chS i k) hx hb dJ1_charAt_3b067_13 (sc_c2 _) ?_
  exact en_z hx hb hr (sc_nar _) hlocks hP hD hK hS () rfl [] [] rfl rfl rfl (Nat.le_of_ble_eq_true rfl) (Nat.le_of_ble_eq_true rfl) dJ1_charAt_3b067_14
theorem pu_J0latin (l : Launch) (dC : Nat → ClassId) (dI : Nat → Nat → Nat) (sa : Nat → Nat) (i : Nat) (sz : Nat) (hi : i < 20) : PU l dC dI sa yJ0_isLatin1_aae02 wsJ0_isLatin1_aae02 (rmJ 0) [.ref (sa (5 + i))] sz (some (.int 1)) := by
  refine CT.start (cc := cJ0_isLatin1_aae02) (maxL := 1) (ret := (some .boolean)) (by decide) rfl (Nat.le_of_ble_eq_true rfl) ?_
  intro p e s m below meth c ls hst hP hK hD hev hS hl
  obtain ⟨hx, hb, hr, hml, hts, hown, hlocks, hin⟩ := hst
  have hown : s.vm.findClass RJ0 = some m.cls := hown
  have hl : lv_has ls 1 [(0, .ref (sa (5 + i)))] := hl
  refine va_gets hx hb hev.2.2.2.2.2.2.1 hS hown (hts (.fieldLink RJ0 38 "java/lang/String" "COMPACT_STRINGS" "Z") (List.mem_of_getElem? (i := 1) (by exact rfl))) (fun _ h => h) dJ0_isLatin1_aae02_0 ?_
  refine lv_if_eq (tgt := 17) hx hb dJ0_isLatin1_aae02_3 (by decide) (fun c1 => absurd c1 (by decide)) (fun c1 => ?_)
  refine lv_aload_n hx hb dJ0_isLatin1_aae02_6 rfl (lv_at hl 0 rfl) ?_
  refine vk_getf hx hb (hev.2.2.2.2.2.1.1 i hi).2.1 hS hown (hts (.fieldLink RJ0 15 "java/lang/String" "coder" "B") (List.mem_of_getElem? (i := 2) (by exact rfl))) (fun _ h => h) dJ0_isLatin1_aae02_7 ?_
  refine lv_if_ne (tgt := 17) hx hb dJ0_isLatin1_aae02_10 (by decide) (fun c1 => absurd rfl c1) (fun c1 => ?_)
  refine lv_iconst (v := 1) hx hb dJ0_isLatin1_aae02_13 (by decide) ?_
  refine lv_goto (tgt := 18) hx hb dJ0_isLatin1_aae02_14 (by decide) ?_
  exact en_z hx hb hr rfl hlocks hP hD hK hS () rfl [] [] rfl rfl rfl (Nat.le_of_ble_eq_true rfl) (Nat.le_of_ble_eq_true rfl) dJ0_isLatin1_aae02_18
theorem pu_J0coder (l : Launch) (dC : Nat → ClassId) (dI : Nat → Nat → Nat) (sa : Nat → Nat) (i : Nat) (sz : Nat) (hi : i < 20) : PU l dC dI sa yJ0_coder_7d493 wsJ0_coder_7d493 (rmJ 0) [.ref (sa (5 + i))] sz (some (.int 0)) := by
  refine CT.start (cc := cJ0_coder_7d493) (maxL := 1) (ret := (some .byte)) (by decide) rfl (Nat.le_of_ble_eq_true rfl) ?_
  intro p e s m below meth c ls hst hP hK hD hev hS hl
  obtain ⟨hx, hb, hr, hml, hts, hown, hlocks, hin⟩ := hst
  have hown : s.vm.findClass RJ0 = some m.cls := hown
  have hl : lv_has ls 1 [(0, .ref (sa (5 + i)))] := hl
  refine va_gets hx hb hev.2.2.2.2.2.2.1 hS hown (hts (.fieldLink RJ0 38 "java/lang/String" "COMPACT_STRINGS" "Z") (List.mem_of_getElem? (i := 1) (by exact rfl))) (fun _ h => h) dJ0_coder_7d493_0 ?_
  refine lv_if_eq (tgt := 13) hx hb dJ0_coder_7d493_3 (by decide) (fun c1 => absurd c1 (by decide)) (fun c1 => ?_)
  refine lv_aload_n hx hb dJ0_coder_7d493_6 rfl (lv_at hl 0 rfl) ?_
  refine vk_getf hx hb (hev.2.2.2.2.2.1.1 i hi).2.1 hS hown (hts (.fieldLink RJ0 15 "java/lang/String" "coder" "B") (List.mem_of_getElem? (i := 2) (by exact rfl))) (fun _ h => h) dJ0_coder_7d493_7 ?_
  refine lv_goto (tgt := 14) hx hb dJ0_coder_7d493_10 (by decide) ?_
  exact en_z hx hb hr rfl hlocks hP hD hK hS () rfl [] [] rfl rfl rfl (Nat.le_of_ble_eq_true rfl) (Nat.le_of_ble_eq_true rfl) dJ0_coder_7d493_14
theorem pu_length (l : Launch) (dC : Nat → ClassId) (dI : Nat → Nat → Nat) (sa : Nat → Nat) (i : Nat) (sz : Nat) (hi : i < 20) : PU l dC dI sa yJ0_length_8abf5 wsJ0_length_8abf5 (rmJ 1) [.ref (sa (5 + i))] sz (some (.int (nI (lenS.getD i 0)))) := by
  have hL := lenS_small i hi
  refine CT.start (cc := cJ0_length_8abf5) (maxL := 1) (ret := (some .int)) (by decide) rfl (Nat.le_of_ble_eq_true rfl) ?_
  intro p e s m below meth c ls hst hP hK hD hev hS hl
  obtain ⟨hx, hb, hr, hml, hts, hown, hlocks, hin⟩ := hst
  have hown : s.vm.findClass RJ0 = some m.cls := hown
  have hA : ∀ q : Nat, s.heap.size ≤ q → va_A [] s.heap.size q := fun _ h => Or.inr h
  have hl : lv_has ls 1 [(0, .ref (sa (5 + i)))] := hl
  refine lv_aload_n hx hb dJ0_length_8abf5_0 rfl (lv_at hl 0 rfl) ?_
  refine vk_getf hx hb (hev.2.2.2.2.2.1.1 i hi).2.2.1 hS hown (hts (.fieldLink RJ0 9 "java/lang/String" "value" "[B") (List.mem_of_getElem? (i := 1) (by exact rfl))) (fun _ h => h) dJ0_length_8abf5_1 ?_
  refine va_tlen hx hb (hev.2.2.2.2.2.1.1 i hi).2.2.2 hS (v := nI (lenS.getD i 0)) rfl dJ0_length_8abf5_4 ?_
  refine lv_aload_n hx hb dJ0_length_8abf5_5 rfl (lv_at hl 0 rfl) ?_
  refine pu_V (i := i) ⟨hx, hb, hml, hown, hts⟩ (pu_J0coder l dC dI sa i _ hi) (cwV 0 hts gJ0_length_8abf5_J0_coder_7d493 rfl rfl rfl (by decide +kernel) ⟨Nat.le_of_ble_eq_true rfl, Nat.le_of_ble_eq_true rfl⟩) hP hK hS hA hev hi rfl hl.1 rfl (Nat.le_of_ble_eq_true rfl) dJ0_length_8abf5_6 ⟨Nat.le_of_ble_eq_true rfl, Nat.le_of_ble_eq_true rfl⟩ (fun H locs hP hS => ?_)
  refine W.eq (g2 := F0 m 9 ls [.int 0, .int (nI (lenS.getD i 0))]) rfl ?_
  refine lv_ishr hx hb dJ0_length_8abf5_9 ?_
  refine lv_topi (fun z ez => ?_)
  obtain rfl : z = nI (lenS.getD i 0) := ez.trans (sc_shr0 hL)
  exact en_i hx hb hr hlocks hP hD hK hS () rfl [] [] rfl rfl rfl (Nat.le_of_ble_eq_true rfl) (Nat.le_of_ble_eq_true rfl) dJ0_length_8abf5_10
theorem pu_charAt (l : Launch) (dC : Nat → ClassId) (dI : Nat → Nat → Nat) (sa : Nat → Nat) (i k : Nat) (sz : Nat) (hi : i < 20) (hk : k < lenS.getD i 0) : PU l dC dI sa yJ0_charAt_5068e wsJ0_charAt_5068e (rmJ 3) [.ref (sa (5 + i)), .int (nI k)] sz (some (.int (chS i k))) := by
  refine CT.start (cc := cJ0_charAt_5068e) (maxL := 2) (ret := (some .char)) (by decide) rfl (Nat.le_of_ble_eq_true rfl) ?_
  intro p e s m below meth c ls hst hP hK hD hev hS hl
  obtain ⟨hx, hb, hr, hml, hts, hown, hlocks, hin⟩ := hst
  have hown : s.vm.findClass RJ0 = some m.cls := hown
  have hA : ∀ q : Nat, s.heap.size ≤ q → va_A [] s.heap.size q := fun _ h => Or.inr h
  have hl : lv_has ls 2 [(0, .ref (sa (5 + i))), (1, .int (nI k))] := hl
  refine lv_aload_n hx hb dJ0_charAt_5068e_0 rfl (lv_at hl 0 rfl) ?_
  refine pu_V (i := i) ⟨hx, hb, hml, hown, hts⟩ (pu_J0latin l dC dI sa i _ hi) (cwV 0 hts gJ0_charAt_5068e_J0_isLatin1_aae02 rfl rfl rfl (by decide +kernel) ⟨Nat.le_of_ble_eq_true rfl, Nat.le_of_ble_eq_true rfl⟩) hP hK hS hA hev hi rfl hl.1 rfl (Nat.le_of_ble_eq_true rfl) dJ0_charAt_5068e_1 ⟨Nat.le_of_ble_eq_true rfl, Nat.le_of_ble_eq_true rfl⟩ (fun H locs hP hS => ?_)
  refine W.eq (g2 := F0 m 4 ls [.int 1]) rfl ?_
  refine lv_if_eq (tgt := 16) hx hb dJ0_charAt_5068e_4 (by decide) (fun c1 => absurd c1 (by decide)) (fun c1 => ?_)
  refine lv_aload_n hx hb dJ0_charAt_5068e_7 rfl (lv_at hl 0 rfl) ?_
  refine vk_getf hx hb (hev.2.2.2.2.2.1.1 i hi).2.2.1 hS hown (hts (.fieldLink RJ0 9 "java/lang/String" "value" "[B") (List.mem_of_getElem? (i := 1) (by exact rfl))) (fun _ h => h) dJ0_charAt_5068e_8 ?_
  refine lv_iload_n hx hb dJ0_charAt_5068e_11 rfl (lv_at hl 1 rfl) ?_
  refine pu_S ⟨hx, hb, hml, hown, hts⟩ (pu_J1char l dC dI sa i k _ hi hk) (va_cwS 2 hts gJ0_charAt_5068e_J1_charAt_3b067 rfl rfl rfl (by decide +kernel) ⟨Nat.le_of_ble_eq_true rfl, Nat.le_of_ble_eq_true rfl⟩) hP hK hS hA hev rfl hl.1 rfl (Nat.le_of_ble_eq_true rfl) dJ0_charAt_5068e_12 ⟨Nat.le_of_ble_eq_true rfl, Nat.le_of_ble_eq_true rfl⟩ (fun H locs hP hS => ?_)
  refine W.eq (g2 := F0 m 15 ls [.int (chS i k)]) rfl ?_
  exact en_z hx hb hr (sc_nar _) hlocks hP hD hK hS () rfl [] [] rfl rfl rfl (Nat.le_of_ble_eq_true rfl) (Nat.le_of_ble_eq_true rfl) dJ0_charAt_5068e_15
