set_option maxHeartbeats 4000000 in
set_option maxRecDepth 100000 in
theorem law_end {p : Program} {l : Launch} {e : Env} {s : State} {m : MethodId} {below : List Frame} {meth : Method} {c : Code} {b : Nat} {xs : Nat → Int32} (hlt : l.stackTraces = false) (C0 : lw_At p s m meth c b 6 xs) {dC : Nat → ClassId} {dI : Nat → Nat → Nat} {sa : Nat → Nat} (hev : ev sa (fun q : Nat => s.heap.size ≤ q) s s.heap) {H : Heap} {locs : List Loc} {ls : Array Slot} {cells slots : Nat} (hS : va_S (fun q : Nat => s.heap.size ≤ q) s.heap H locs) (hc9 : cells ≤ 600002) (hs9 : slots ≤ 7302232) (hl : lv_has ls 7 [(4, .int 0), (0, .ref b)]) : W p l e room_1 s m #[Value.ref b] below meth c H locs cells slots (lw_Z below #[Value.ref b] s) (F0 m 1386 ls []) := by
  obtain ⟨hx, hb, hr, hml, hown, hts, hX, hbl, hlocks, hgv⟩ := C0
  have hown : s.vm.findClass RL = some m.cls := hown
  have hA : ∀ q : Nat, s.heap.size ≤ q → (fun q : Nat => s.heap.size ≤ q) q := fun _ h => h
  have hbA : ¬ (fun q : Nat => s.heap.size ≤ q) b := Nat.not_le.mpr hbl
  refine lv_iinc (v := 6) (lv' := [(4, .int 6), (0, .ref b)]) hx hb dL_law_1386 hl (k := 0) rfl (by decide) (by decide) rfl (fun ls hl => ?_)
  refine lv_goto (tgt := 23) hx hb dL_law_1389 (by decide) ?_
  refine lv_iload hx hb dL_law_23 (lv_at hl 0 rfl) ?_
  refine lv_aload_n hx hb dL_law_25 rfl (lv_at hl 1 rfl) ?_
  refine va_slen hx hb hX hbl hbA hS dL_law_26 ?_
  refine lv_topi (fun z_1 ez_1 => ?_)
  obtain rfl : z_1 = 6 := ez_1.trans (by decide)
  refine lv_bipush (v := 6) hx hb dL_law_27 (by decide) ?_
  refine lv_isub hx hb dL_law_29 ?_
  refine lv_topi (fun z_2 ez_2 => ?_)
  obtain rfl : z_2 = 0 := ez_2.trans (by decide)
  refine lv_icmp_gt (tgt := 1392) hx hb dL_law_30 (by decide) (fun c_3 => ?_) (fun c_3 => ?_)
  rotate_left
  · exact absurd c_3 (by decide)
  refine lv_iconst (v := 1) hx hb dL_law_1392 (by decide) ?_
  refine va_forget (fun q hq => hS.2.2 q hq) ?_
  refine W.widen (k := 600002) (n := 7302232) hc9 hs9 ?_
  exact lw_ret hx hb hr hlocks dL_law_1393

set_option maxHeartbeats 4000000 in
set_option maxRecDepth 100000 in
theorem law_charge {p : Program} {l : Launch} {e : Env} {s : State} {m : MethodId} {below : List Frame} {meth : Method} {c : Code} {b : Nat} {xs : Nat → Int32} (hlt : l.stackTraces = false) (C0 : lw_At p s m meth c b 6 xs) {dC : Nat → ClassId} {dI : Nat → Nat → Nat} {sa : Nat → Nat} (hev : ev sa (fun q : Nat => s.heap.size ≤ q) s s.heap) {H : Heap} {locs : List Loc} {ls : Array Slot} {x0 m0 ou : Nat} {co : ClassId} {ad : Nat → Nat} {ca : Nat → ClassId} {fv : Nat → Option Nat} {qv : Nat} {nn : Int32} {md : Nat → Nat} {mq : Nat → ClassId} (hfv : ∀ k, k < 6 → fv k = some (ad (2 + k))) (hq : ¬ (xs 1) < 0 → ¬ 6 ≤ (xs 1) → ad (2 + (xs 1).toNatClampNeg) = qv) (hK : va_K (dC, dI) vwCl [((ca 1), .object "VatHouse$Vat"), ((mq 4), .int), (co, .long)] s) (hP : va_P (dC, dI) vwCl [(x0, .inr (9, [.ref (ad 0), .ref (ad 8), .int 0, .int 0, .ref (ad 9), .int 0, .ref (ad 10), .ref (ad 15), .int 0, .ref (ad 16), .ref (ad 17)])), ((ad 0), .inr (8, [.ref (ad 1), .int 0, .int 0])), ((ad 1), .inl ((ca 1), 6, .inr (.inr (.inr (.inr fv))))), (qv, .inr (7, [.int nn, .int 0, .int 0, .int 0, .int 2, .int 0, .int 0, .int (-2)])), (m0, .inr (10, [.int 0, .int 0, .int 0, .int 0, .ref (md 4), .ref (md 5), .ref (md 6), .ref (md 7), .ref (md 8), .ref (md 9), .ref (md 10), .ref (md 11), .int 0, .ref (md 13), .ref (md 14), .ref (md 15), .ref (md 16), .ref (md 17), .ref (md 18), .ref (md 19), .int 0, .int 0, .int 0, .int 0, .int (-1), .int 0, .ref (md 26), .ref (md 27), .ref (md 28), .ref (md 29), .ref (md 30), .ref (md 31), .ref (md 32), .ref (md 33), .ref (md 34), .ref (md 35), .int 0, .int 0, .int 0, .int 0, .int 0, .int 0, .int 0, .int 0, .int (-1), .int 0, .int 0, .ref (md 47), .ref (md 48), .ref (md 49), .ref (md 50)])), ((md 4), .inl ((mq 4), 6, .inl (fun _ => 0))), (ou, .inl (co, 1, .inr (.inl (fun _ => 0))))] H) (hD : va_D (fun q : Nat => s.heap.size ≤ q) [(x0, .inr (9, [.ref (ad 0), .ref (ad 8), .int 0, .int 0, .ref (ad 9), .int 0, .ref (ad 10), .ref (ad 15), .int 0, .ref (ad 16), .ref (ad 17)])), ((ad 0), .inr (8, [.ref (ad 1), .int 0, .int 0])), ((ad 1), .inl ((ca 1), 6, .inr (.inr (.inr (.inr fv))))), (qv, .inr (7, [.int nn, .int 0, .int 0, .int 0, .int 2, .int 0, .int 0, .int (-2)])), (m0, .inr (10, [.int 0, .int 0, .int 0, .int 0, .ref (md 4), .ref (md 5), .ref (md 6), .ref (md 7), .ref (md 8), .ref (md 9), .ref (md 10), .ref (md 11), .int 0, .ref (md 13), .ref (md 14), .ref (md 15), .ref (md 16), .ref (md 17), .ref (md 18), .ref (md 19), .int 0, .int 0, .int 0, .int 0, .int (-1), .int 0, .ref (md 26), .ref (md 27), .ref (md 28), .ref (md 29), .ref (md 30), .ref (md 31), .ref (md 32), .ref (md 33), .ref (md 34), .ref (md 35), .int 0, .int 0, .int 0, .int 0, .int 0, .int 0, .int 0, .int 0, .int (-1), .int 0, .int 0, .ref (md 47), .ref (md 48), .ref (md 49), .ref (md 50)])), ((md 4), .inl ((mq 4), 6, .inl (fun _ => 0))), (ou, .inl (co, 1, .inr (.inl (fun _ => 0))))]) (hS : va_S (fun q : Nat => s.heap.size ≤ q) s.heap H locs) (hl : lv_has ls 7 [(4, .int 0), (3, .ref ou), (2, .ref m0), (1, .ref x0), (0, .ref b)]) : W p l e room_1 s m #[Value.ref b] below meth c H locs 61 29719 (lw_Z below #[Value.ref b] s) (F0 m 132 ls []) := by
  obtain ⟨hx, hb, hr, hml, hown, hts, hX, hbl, hlocks, hgv⟩ := id C0
  have hown : s.vm.findClass RL = some m.cls := hown
  have hA : ∀ q : Nat, s.heap.size ≤ q → (fun q : Nat => s.heap.size ≤ q) q := fun _ h => h
  have hbA : ¬ (fun q : Nat => s.heap.size ≤ q) b := Nat.not_le.mpr hbl
  refine lv_aload_n hx hb dL_law_132 rfl (lv_at hl 3 rfl) ?_
  refine lv_aload_n hx hb dL_law_133 rfl (lv_at hl 4 rfl) ?_
  refine lv_iload hx hb dL_law_134 (lv_at hl 0 rfl) ?_
  refine lv_iconst (v := 1) hx hb dL_law_136 (by decide) ?_
  refine lv_iadd hx hb dL_law_137 ?_
  refine lv_topi (fun z_1 ez_1 => ?_)
  obtain rfl : z_1 = 1 := ez_1.trans (by decide)
  refine va_sld hx hb hX hbl hbA hS (by unfold vp_in; decide) dL_law_138 ?_
  refine W.eq (g2 := F0 m 139 ls [.int (xs 1), .ref x0]) rfl ?_
  refine lv_aload_n hx hb dL_law_139 rfl (lv_at hl 4 rfl) ?_
  refine lv_iload hx hb dL_law_140 (lv_at hl 0 rfl) ?_
  refine lv_iconst (v := 2) hx hb dL_law_142 (by decide) ?_
  refine lv_iadd hx hb dL_law_143 ?_
  refine lv_topi (fun z_2 ez_2 => ?_)
  obtain rfl : z_2 = 2 := ez_2.trans (by decide)
  refine va_sld hx hb hX hbl hbA hS (by unfold vp_in; decide) dL_law_144 ?_
  refine W.eq (g2 := F0 m 145 ls [.int (xs 2), .int (xs 1), .ref x0]) rfl ?_
  refine lv_aload_n hx hb dL_law_145 rfl (lv_at hl 1 rfl) ?_
  refine go_SW (wr := [(m0, .inr (10, [.int 0, .int 0, .int 0, .int 0, .ref (md 4), .ref (md 5), .ref (md 6), .ref (md 7), .ref (md 8), .ref (md 9), .ref (md 10), .ref (md 11), .int 0, .ref (md 13), .ref (md 14), .ref (md 15), .ref (md 16), .ref (md 17), .ref (md 18), .ref (md 19), .int 0, .int 0, .int 0, .int 0, .int (-1), .int 0, .ref (md 26), .ref (md 27), .ref (md 28), .ref (md 29), .ref (md 30), .ref (md 31), .ref (md 32), .ref (md 33), .ref (md 34), .ref (md 35), .int 0, .int 0, .int 0, .int 0, .int 0, .int 0, .int 0, .int 0, .int (-1), .int 0, .int 0, .ref (md 47), .ref (md 48), .ref (md 49), .ref (md 50)])), ((md 4), .inl ((mq 4), 6, .inl (fun _ => 0)))]) ⟨hx, hb, hml, hown, hts⟩ (c_L_charge l dC dI sa hlt _ x0 ad ca fv qv nn ou co (fun _ => 0) (xs 1) (xs 2) hfv hq) (vx_cwSW 4 hts gL_law_L_charge rfl rfl rfl (by decide +kernel) ⟨Nat.le_of_ble_eq_true rfl, Nat.le_of_ble_eq_true rfl⟩) hP hD hK hS hA hev [0, 1, 2, 3, 6] [4, 5] [0, 2] rfl rfl rfl rfl (by decide) rfl rfl hl.1 rfl (Nat.le_of_ble_eq_true rfl) dL_law_146 ⟨Nat.le_of_ble_eq_true rfl, Nat.le_of_ble_eq_true rfl⟩ (fun r u H locs hw hP hD hK hS => ?_)
  obtain ⟨k_3, g_4⟩ := u
  have hw : r = some (.int k_3) ∧ (∃ y : Int32, E_charge (xs 1) (xs 2) = (k_3, y) ∧ (k_3 = 0 → g_4 0 = y.toInt64)) := hw
  obtain ⟨rfl, hw_5⟩ := hw
  have hP : va_P (dC, dI) vwCl [(m0, .inr (10, [.int 0, .int 0, .int 0, .int 0, .ref (md 4), .ref (md 5), .ref (md 6), .ref (md 7), .ref (md 8), .ref (md 9), .ref (md 10), .ref (md 11), .int 0, .ref (md 13), .ref (md 14), .ref (md 15), .ref (md 16), .ref (md 17), .ref (md 18), .ref (md 19), .int 0, .int 0, .int 0, .int 0, .int (-1), .int 0, .ref (md 26), .ref (md 27), .ref (md 28), .ref (md 29), .ref (md 30), .ref (md 31), .ref (md 32), .ref (md 33), .ref (md 34), .ref (md 35), .int 0, .int 0, .int 0, .int 0, .int 0, .int 0, .int 0, .int 0, .int (-1), .int 0, .int 0, .ref (md 47), .ref (md 48), .ref (md 49), .ref (md 50)])), ((md 4), .inl ((mq 4), 6, .inl (fun _ => 0))), (ou, .inl (co, 1, .inr (.inl g_4)))] _ := hP
  have hD : va_D _ [(m0, .inr (10, [.int 0, .int 0, .int 0, .int 0, .ref (md 4), .ref (md 5), .ref (md 6), .ref (md 7), .ref (md 8), .ref (md 9), .ref (md 10), .ref (md 11), .int 0, .ref (md 13), .ref (md 14), .ref (md 15), .ref (md 16), .ref (md 17), .ref (md 18), .ref (md 19), .int 0, .int 0, .int 0, .int 0, .int (-1), .int 0, .ref (md 26), .ref (md 27), .ref (md 28), .ref (md 29), .ref (md 30), .ref (md 31), .ref (md 32), .ref (md 33), .ref (md 34), .ref (md 35), .int 0, .int 0, .int 0, .int 0, .int 0, .int 0, .int 0, .int 0, .int (-1), .int 0, .int 0, .ref (md 47), .ref (md 48), .ref (md 49), .ref (md 50)])), ((md 4), .inl ((mq 4), 6, .inl (fun _ => 0))), (ou, .inl (co, 1, .inr (.inl g_4)))] := hD
  have hK : va_K (dC, dI) vwCl [((ca 1), .object "VatHouse$Vat"), ((mq 4), .int), (co, .long)] s := hK
  refine W.eq (g2 := F0 m 149 ls [.int k_3]) rfl ?_
  refine lv_istore (lv' := [(5, .int k_3), (4, .int 0), (3, .ref ou), (2, .ref m0), (1, .ref x0), (0, .ref b)]) hx hb dL_law_149 hl (by decide) rfl (fun ls hl => ?_)
  refine lv_aload_n hx hb dL_law_151 rfl (lv_at hl 3 rfl) ?_
  refine lv_aload_n hx hb dL_law_152 rfl (lv_at hl 5 rfl) ?_
  refine lv_iload hx hb dL_law_153 (lv_at hl 1 rfl) ?_
  refine lv_iconst (v := 1) hx hb dL_law_155 (by decide) ?_
  refine lv_iadd hx hb dL_law_156 ?_
  refine lv_topi (fun z_6 ez_6 => ?_)
  obtain rfl : z_6 = 1 := ez_6.trans (by decide)
  refine va_sld hx hb hX hbl hbA hS (by unfold vp_in; decide) dL_law_157 ?_
  refine W.eq (g2 := F0 m 158 ls [.int (xs 1), .ref m0]) rfl ?_
  refine lv_aload_n hx hb dL_law_158 rfl (lv_at hl 5 rfl) ?_
  refine lv_iload hx hb dL_law_159 (lv_at hl 1 rfl) ?_
  refine lv_iconst (v := 2) hx hb dL_law_161 (by decide) ?_
  refine lv_iadd hx hb dL_law_162 ?_
  refine lv_topi (fun z_7 ez_7 => ?_)
  obtain rfl : z_7 = 2 := ez_7.trans (by decide)
  refine va_sld hx hb hX hbl hbA hS (by unfold vp_in; decide) dL_law_163 ?_
  refine W.eq (g2 := F0 m 164 ls [.int (xs 2), .int (xs 1), .ref m0]) rfl ?_
  refine go_V (wr := [(ou, .inl (co, 1, .inr (.inl g_4)))]) ⟨hx, hb, hml, hown, hts⟩ (c_X10_charge l dC dI sa hlt _ m0 md mq (xs 1) (xs 2) ) (cwV 2 hts gL_law_X10_charge rfl rfl rfl (by decide +kernel) ⟨Nat.le_of_ble_eq_true rfl, Nat.le_of_ble_eq_true rfl⟩) hP hD hK hS hA hev [0, 1] [2] [1] rfl rfl rfl rfl (by decide) rfl 0 10 rfl rfl rfl rfl hl.1 rfl (Nat.le_of_ble_eq_true rfl) dL_law_164 ⟨Nat.le_of_ble_eq_true rfl, Nat.le_of_ble_eq_true rfl⟩ (fun r u H locs hw hP hD hK hS => ?_)
  obtain ⟨x_8, J_9⟩ := u
  have hw : r = some (.int x_8) ∧ (E_charge (xs 1) (xs 2) = (J_9 0, x_8)) := hw
  obtain ⟨rfl, hw_10⟩ := hw
  have hP : va_P (dC, dI) vwCl [(ou, .inl (co, 1, .inr (.inl g_4))), (m0, .inr (10, [.int (J_9 0), .int (J_9 1), .int (J_9 2), .int (J_9 3), .ref (md 4), .ref (md 5), .ref (md 6), .ref (md 7), .ref (md 8), .ref (md 9), .ref (md 10), .ref (md 11), .int (J_9 12), .ref (md 13), .ref (md 14), .ref (md 15), .ref (md 16), .ref (md 17), .ref (md 18), .ref (md 19), .int (J_9 20), .int (J_9 21), .int (J_9 22), .int (J_9 23), .int (J_9 24), .int (J_9 25), .ref (md 26), .ref (md 27), .ref (md 28), .ref (md 29), .ref (md 30), .ref (md 31), .ref (md 32), .ref (md 33), .ref (md 34), .ref (md 35), .int (J_9 36), .int (J_9 37), .int (J_9 38), .int (J_9 39), .int (J_9 40), .int (J_9 41), .int (J_9 42), .int (J_9 43), .int (J_9 44), .int (J_9 45), .int (J_9 46), .ref (md 47), .ref (md 48), .ref (md 49), .ref (md 50)]))] _ := hP
  have hD : va_D _ [(ou, .inl (co, 1, .inr (.inl g_4))), (m0, .inr (10, [.int (J_9 0), .int (J_9 1), .int (J_9 2), .int (J_9 3), .ref (md 4), .ref (md 5), .ref (md 6), .ref (md 7), .ref (md 8), .ref (md 9), .ref (md 10), .ref (md 11), .int (J_9 12), .ref (md 13), .ref (md 14), .ref (md 15), .ref (md 16), .ref (md 17), .ref (md 18), .ref (md 19), .int (J_9 20), .int (J_9 21), .int (J_9 22), .int (J_9 23), .int (J_9 24), .int (J_9 25), .ref (md 26), .ref (md 27), .ref (md 28), .ref (md 29), .ref (md 30), .ref (md 31), .ref (md 32), .ref (md 33), .ref (md 34), .ref (md 35), .int (J_9 36), .int (J_9 37), .int (J_9 38), .int (J_9 39), .int (J_9 40), .int (J_9 41), .int (J_9 42), .int (J_9 43), .int (J_9 44), .int (J_9 45), .int (J_9 46), .ref (md 47), .ref (md 48), .ref (md 49), .ref (md 50)]))] := hD
  have hK : va_K (dC, dI) vwCl [((ca 1), .object "VatHouse$Vat"), ((mq 4), .int), (co, .long)] s := hK
  refine W.eq (g2 := F0 m 167 ls [.int x_8]) rfl ?_
  obtain ⟨y9, hE1, hE2⟩ := hw_5
  obtain ⟨hk9, hy9⟩ := Prod.mk.inj (hE1.symm.trans hw_10)
  refine lv_istore (lv' := [(6, .int x_8), (5, .int k_3), (4, .int 0), (3, .ref ou), (2, .ref m0), (1, .ref x0), (0, .ref b)]) hx hb dL_law_167 hl (by decide) rfl (fun ls hl => ?_)
  refine lv_aload_n hx hb dL_law_169 rfl (lv_at hl 4 rfl) ?_
  refine go_V (wr := [(ou, .inl (co, 1, .inr (.inl g_4)))]) ⟨hx, hb, hml, hown, hts⟩ (c_X10_thrown l dC dI sa hlt _ m0 md J_9 ) (cwV 0 hts gL_law_X10_thrown rfl rfl rfl (by decide +kernel) ⟨Nat.le_of_ble_eq_true rfl, Nat.le_of_ble_eq_true rfl⟩) hP hD hK hS hA hev [1] [0] [] rfl rfl rfl rfl (by decide) rfl 1 10 rfl rfl rfl rfl hl.1 rfl (Nat.le_of_ble_eq_true rfl) dL_law_170 ⟨Nat.le_of_ble_eq_true rfl, Nat.le_of_ble_eq_true rfl⟩ (fun r u H locs hw hP hD hK hS => ?_)
  have hw : r = some (.int (J_9 0)) ∧ (True) := hw
  obtain ⟨rfl, hw_11⟩ := hw
  have hP : va_P (dC, dI) vwCl [(ou, .inl (co, 1, .inr (.inl g_4))), (m0, .inr (10, [.int (J_9 0), .int (J_9 1), .int (J_9 2), .int (J_9 3), .ref (md 4), .ref (md 5), .ref (md 6), .ref (md 7), .ref (md 8), .ref (md 9), .ref (md 10), .ref (md 11), .int (J_9 12), .ref (md 13), .ref (md 14), .ref (md 15), .ref (md 16), .ref (md 17), .ref (md 18), .ref (md 19), .int (J_9 20), .int (J_9 21), .int (J_9 22), .int (J_9 23), .int (J_9 24), .int (J_9 25), .ref (md 26), .ref (md 27), .ref (md 28), .ref (md 29), .ref (md 30), .ref (md 31), .ref (md 32), .ref (md 33), .ref (md 34), .ref (md 35), .int (J_9 36), .int (J_9 37), .int (J_9 38), .int (J_9 39), .int (J_9 40), .int (J_9 41), .int (J_9 42), .int (J_9 43), .int (J_9 44), .int (J_9 45), .int (J_9 46), .ref (md 47), .ref (md 48), .ref (md 49), .ref (md 50)]))] _ := hP
  have hD : va_D _ [(ou, .inl (co, 1, .inr (.inl g_4))), (m0, .inr (10, [.int (J_9 0), .int (J_9 1), .int (J_9 2), .int (J_9 3), .ref (md 4), .ref (md 5), .ref (md 6), .ref (md 7), .ref (md 8), .ref (md 9), .ref (md 10), .ref (md 11), .int (J_9 12), .ref (md 13), .ref (md 14), .ref (md 15), .ref (md 16), .ref (md 17), .ref (md 18), .ref (md 19), .int (J_9 20), .int (J_9 21), .int (J_9 22), .int (J_9 23), .int (J_9 24), .int (J_9 25), .ref (md 26), .ref (md 27), .ref (md 28), .ref (md 29), .ref (md 30), .ref (md 31), .ref (md 32), .ref (md 33), .ref (md 34), .ref (md 35), .int (J_9 36), .int (J_9 37), .int (J_9 38), .int (J_9 39), .int (J_9 40), .int (J_9 41), .int (J_9 42), .int (J_9 43), .int (J_9 44), .int (J_9 45), .int (J_9 46), .ref (md 47), .ref (md 48), .ref (md 49), .ref (md 50)]))] := hD
  have hK : va_K (dC, dI) vwCl [((ca 1), .object "VatHouse$Vat"), ((mq 4), .int), (co, .long)] s := hK
  refine W.eq (g2 := F0 m 173 ls [.int (J_9 0)]) rfl ?_
  refine lv_iload hx hb dL_law_173 (lv_at hl 1 rfl) ?_
  refine lv_icmp_eq (tgt := 180) hx hb dL_law_175 (by decide) (fun c_12 => ?_) (fun c_12 => ?_)
  rotate_left
  · exact absurd c_12 (fun h => h hk9.symm)
  refine lv_iload hx hb dL_law_180 (lv_at hl 1 rfl) ?_
  refine lv_if_ne (tgt := 197) hx hb dL_law_182 (by decide) (fun c_13 => ?_) (fun c_13 => ?_)
  · refine lv_goto (tgt := 1386) hx hb dL_law_197 (by decide) ?_
    exact law_end (dC := dC) (dI := dI) hlt C0 hev hS (Nat.le_of_ble_eq_true rfl) (Nat.le_of_ble_eq_true rfl) (lv_sub hl [2, 6] rfl)
  · refine lv_aload_n hx hb dL_law_185 rfl (lv_at hl 3 rfl) ?_
    refine lv_iconst (v := 0) hx hb dL_law_186 (by decide) ?_
    refine va_lald hx hb hK hP 0 2 rfl rfl (by unfold vp_in; decide) dL_law_187 ?_
    refine lv_iload hx hb dL_law_188 (lv_at hl 0 rfl) ?_
    refine lv_i2l (v := (x_8).toInt64) hx hb dL_law_190 rfl ?_
    refine W.lcmp hx hb dL_law_191 ?_
    refine lv_topi (fun z_14 ez_14 => ?_)
    refine lv_if_eq (tgt := 197) hx hb dL_law_192 (by decide) (fun c_15 => ?_) (fun c_15 => ?_)
    rotate_left
    · exact absurd c_15 (fun h => h (ez_14.trans (lgc ((hE2 c_13).trans (by rw [hy9])))))
    refine lv_goto (tgt := 1386) hx hb dL_law_197 (by decide) ?_
    exact law_end (dC := dC) (dI := dI) hlt C0 hev hS (Nat.le_of_ble_eq_true rfl) (Nat.le_of_ble_eq_true rfl) (lv_sub hl [2, 6] rfl)

set_option maxHeartbeats 4000000 in
set_option maxRecDepth 100000 in
theorem law_feed {p : Program} {l : Launch} {e : Env} {s : State} {m : MethodId} {below : List Frame} {meth : Method} {c : Code} {b : Nat} {xs : Nat → Int32} (hlt : l.stackTraces = false) (C0 : lw_At p s m meth c b 6 xs) {dC : Nat → ClassId} {dI : Nat → Nat → Nat} {sa : Nat → Nat} (hev : ev sa (fun q : Nat => s.heap.size ≤ q) s s.heap) {H : Heap} {locs : List Loc} {ls : Array Slot} {x0 m0 ou : Nat} {co : ClassId} {ad : Nat → Nat} {ca : Nat → ClassId} {fv : Nat → Option Nat} {qv : Nat} {nn : Int32} {md : Nat → Nat} {mq : Nat → ClassId} {fs : Nat → Int32} (hfv : ∀ k, k < 6 → fv k = some (ad (2 + k))) (hq : ¬ (xs 1) < 0 → ¬ 6 ≤ (xs 1) → ad (2 + (xs 1).toNatClampNeg) = qv) (hfs : ∀ k, k < 6 → fs k = 2) (hK : va_K (dC, dI) vwCl [((ca 1), .object "VatHouse$Vat"), ((mq 5), .int), ((mq 7), .int), (co, .long)] s) (hP : va_P (dC, dI) vwCl [(x0, .inr (9, [.ref (ad 0), .ref (ad 8), .int 0, .int 0, .ref (ad 9), .int 0, .ref (ad 10), .ref (ad 15), .int 0, .ref (ad 16), .ref (ad 17)])), ((ad 0), .inr (8, [.ref (ad 1), .int 0, .int 0])), ((ad 1), .inl ((ca 1), 6, .inr (.inr (.inr (.inr fv))))), (qv, .inr (7, [.int nn, .int 0, .int 0, .int 0, .int 2, .int 0, .int 0, .int (-2)])), (m0, .inr (10, [.int 0, .int 0, .int 0, .int 0, .ref (md 4), .ref (md 5), .ref (md 6), .ref (md 7), .ref (md 8), .ref (md 9), .ref (md 10), .ref (md 11), .int 0, .ref (md 13), .ref (md 14), .ref (md 15), .ref (md 16), .ref (md 17), .ref (md 18), .ref (md 19), .int 0, .int 0, .int 0, .int 0, .int (-1), .int 0, .ref (md 26), .ref (md 27), .ref (md 28), .ref (md 29), .ref (md 30), .ref (md 31), .ref (md 32), .ref (md 33), .ref (md 34), .ref (md 35), .int 0, .int 0, .int 0, .int 0, .int 0, .int 0, .int 0, .int 0, .int (-1), .int 0, .int 0, .ref (md 47), .ref (md 48), .ref (md 49), .ref (md 50)])), ((md 5), .inl ((mq 5), 6, .inl (fun _ => 0))), ((md 7), .inl ((mq 7), 6, .inl fs)), (ou, .inl (co, 1, .inr (.inl (fun _ => 0))))] H) (hD : va_D (fun q : Nat => s.heap.size ≤ q) [(x0, .inr (9, [.ref (ad 0), .ref (ad 8), .int 0, .int 0, .ref (ad 9), .int 0, .ref (ad 10), .ref (ad 15), .int 0, .ref (ad 16), .ref (ad 17)])), ((ad 0), .inr (8, [.ref (ad 1), .int 0, .int 0])), ((ad 1), .inl ((ca 1), 6, .inr (.inr (.inr (.inr fv))))), (qv, .inr (7, [.int nn, .int 0, .int 0, .int 0, .int 2, .int 0, .int 0, .int (-2)])), (m0, .inr (10, [.int 0, .int 0, .int 0, .int 0, .ref (md 4), .ref (md 5), .ref (md 6), .ref (md 7), .ref (md 8), .ref (md 9), .ref (md 10), .ref (md 11), .int 0, .ref (md 13), .ref (md 14), .ref (md 15), .ref (md 16), .ref (md 17), .ref (md 18), .ref (md 19), .int 0, .int 0, .int 0, .int 0, .int (-1), .int 0, .ref (md 26), .ref (md 27), .ref (md 28), .ref (md 29), .ref (md 30), .ref (md 31), .ref (md 32), .ref (md 33), .ref (md 34), .ref (md 35), .int 0, .int 0, .int 0, .int 0, .int 0, .int 0, .int 0, .int 0, .int (-1), .int 0, .int 0, .ref (md 47), .ref (md 48), .ref (md 49), .ref (md 50)])), ((md 5), .inl ((mq 5), 6, .inl (fun _ => 0))), ((md 7), .inl ((mq 7), 6, .inl fs)), (ou, .inl (co, 1, .inr (.inl (fun _ => 0))))]) (hS : va_S (fun q : Nat => s.heap.size ≤ q) s.heap H locs) (hl : lv_has ls 7 [(4, .int 0), (3, .ref ou), (2, .ref m0), (1, .ref x0), (0, .ref b)]) : W p l e room_1 s m #[Value.ref b] below meth c H locs 61 29719 (lw_Z below #[Value.ref b] s) (F0 m 200 ls []) := by
  obtain ⟨hx, hb, hr, hml, hown, hts, hX, hbl, hlocks, hgv⟩ := id C0
  have hown : s.vm.findClass RL = some m.cls := hown
  have hA : ∀ q : Nat, s.heap.size ≤ q → (fun q : Nat => s.heap.size ≤ q) q := fun _ h => h
  have hbA : ¬ (fun q : Nat => s.heap.size ≤ q) b := Nat.not_le.mpr hbl
  refine lv_aload_n hx hb dL_law_200 rfl (lv_at hl 3 rfl) ?_
  refine lv_aload_n hx hb dL_law_201 rfl (lv_at hl 4 rfl) ?_
  refine lv_iload hx hb dL_law_202 (lv_at hl 0 rfl) ?_
  refine lv_iconst (v := 1) hx hb dL_law_204 (by decide) ?_
  refine lv_iadd hx hb dL_law_205 ?_
  refine lv_topi (fun z_1 ez_1 => ?_)
  obtain rfl : z_1 = 1 := ez_1.trans (by decide)
  refine va_sld hx hb hX hbl hbA hS (by unfold vp_in; decide) dL_law_206 ?_
  refine W.eq (g2 := F0 m 207 ls [.int (xs 1), .ref x0]) rfl ?_
  refine lv_aload_n hx hb dL_law_207 rfl (lv_at hl 4 rfl) ?_
  refine lv_iload hx hb dL_law_208 (lv_at hl 0 rfl) ?_
  refine lv_iconst (v := 2) hx hb dL_law_210 (by decide) ?_
  refine lv_iadd hx hb dL_law_211 ?_
  refine lv_topi (fun z_2 ez_2 => ?_)
  obtain rfl : z_2 = 2 := ez_2.trans (by decide)
  refine va_sld hx hb hX hbl hbA hS (by unfold vp_in; decide) dL_law_212 ?_
  refine W.eq (g2 := F0 m 213 ls [.int (xs 2), .int (xs 1), .ref x0]) rfl ?_
  refine lv_aload_n hx hb dL_law_213 rfl (lv_at hl 1 rfl) ?_
  refine go_SW (wr := [(m0, .inr (10, [.int 0, .int 0, .int 0, .int 0, .ref (md 4), .ref (md 5), .ref (md 6), .ref (md 7), .ref (md 8), .ref (md 9), .ref (md 10), .ref (md 11), .int 0, .ref (md 13), .ref (md 14), .ref (md 15), .ref (md 16), .ref (md 17), .ref (md 18), .ref (md 19), .int 0, .int 0, .int 0, .int 0, .int (-1), .int 0, .ref (md 26), .ref (md 27), .ref (md 28), .ref (md 29), .ref (md 30), .ref (md 31), .ref (md 32), .ref (md 33), .ref (md 34), .ref (md 35), .int 0, .int 0, .int 0, .int 0, .int 0, .int 0, .int 0, .int 0, .int (-1), .int 0, .int 0, .ref (md 47), .ref (md 48), .ref (md 49), .ref (md 50)])), ((md 5), .inl ((mq 5), 6, .inl (fun _ => 0))), ((md 7), .inl ((mq 7), 6, .inl fs))]) ⟨hx, hb, hml, hown, hts⟩ (c_L_feed l dC dI sa hlt _ x0 ad ca fv qv nn ou co (fun _ => 0) (xs 1) (xs 2) hfv hq) (vx_cwSW 4 hts gL_law_L_feed rfl rfl rfl (by decide +kernel) ⟨Nat.le_of_ble_eq_true rfl, Nat.le_of_ble_eq_true rfl⟩) hP hD hK hS hA hev [0, 1, 2, 3, 7] [4, 5, 6] [0, 3] rfl rfl rfl rfl (by decide) rfl rfl hl.1 rfl (Nat.le_of_ble_eq_true rfl) dL_law_214 ⟨Nat.le_of_ble_eq_true rfl, Nat.le_of_ble_eq_true rfl⟩ (fun r u H locs hw hP hD hK hS => ?_)
  obtain ⟨k_3, g_4⟩ := u
  have hw : r = some (.int k_3) ∧ (∃ y : Int32, E_feed (xs 1) (xs 2) = (k_3, y) ∧ (k_3 = 0 → g_4 0 = y.toInt64)) := hw
  obtain ⟨rfl, hw_5⟩ := hw
  have hP : va_P (dC, dI) vwCl [(m0, .inr (10, [.int 0, .int 0, .int 0, .int 0, .ref (md 4), .ref (md 5), .ref (md 6), .ref (md 7), .ref (md 8), .ref (md 9), .ref (md 10), .ref (md 11), .int 0, .ref (md 13), .ref (md 14), .ref (md 15), .ref (md 16), .ref (md 17), .ref (md 18), .ref (md 19), .int 0, .int 0, .int 0, .int 0, .int (-1), .int 0, .ref (md 26), .ref (md 27), .ref (md 28), .ref (md 29), .ref (md 30), .ref (md 31), .ref (md 32), .ref (md 33), .ref (md 34), .ref (md 35), .int 0, .int 0, .int 0, .int 0, .int 0, .int 0, .int 0, .int 0, .int (-1), .int 0, .int 0, .ref (md 47), .ref (md 48), .ref (md 49), .ref (md 50)])), ((md 5), .inl ((mq 5), 6, .inl (fun _ => 0))), ((md 7), .inl ((mq 7), 6, .inl fs)), (ou, .inl (co, 1, .inr (.inl g_4)))] _ := hP
  have hD : va_D _ [(m0, .inr (10, [.int 0, .int 0, .int 0, .int 0, .ref (md 4), .ref (md 5), .ref (md 6), .ref (md 7), .ref (md 8), .ref (md 9), .ref (md 10), .ref (md 11), .int 0, .ref (md 13), .ref (md 14), .ref (md 15), .ref (md 16), .ref (md 17), .ref (md 18), .ref (md 19), .int 0, .int 0, .int 0, .int 0, .int (-1), .int 0, .ref (md 26), .ref (md 27), .ref (md 28), .ref (md 29), .ref (md 30), .ref (md 31), .ref (md 32), .ref (md 33), .ref (md 34), .ref (md 35), .int 0, .int 0, .int 0, .int 0, .int 0, .int 0, .int 0, .int 0, .int (-1), .int 0, .int 0, .ref (md 47), .ref (md 48), .ref (md 49), .ref (md 50)])), ((md 5), .inl ((mq 5), 6, .inl (fun _ => 0))), ((md 7), .inl ((mq 7), 6, .inl fs)), (ou, .inl (co, 1, .inr (.inl g_4)))] := hD
  have hK : va_K (dC, dI) vwCl [((ca 1), .object "VatHouse$Vat"), ((mq 5), .int), ((mq 7), .int), (co, .long)] s := hK
  refine W.eq (g2 := F0 m 217 ls [.int k_3]) rfl ?_
  refine lv_istore (lv' := [(5, .int k_3), (4, .int 0), (3, .ref ou), (2, .ref m0), (1, .ref x0), (0, .ref b)]) hx hb dL_law_217 hl (by decide) rfl (fun ls hl => ?_)
  refine lv_aload_n hx hb dL_law_219 rfl (lv_at hl 3 rfl) ?_
  refine lv_aload_n hx hb dL_law_220 rfl (lv_at hl 5 rfl) ?_
  refine lv_iload hx hb dL_law_221 (lv_at hl 1 rfl) ?_
  refine lv_iconst (v := 1) hx hb dL_law_223 (by decide) ?_
  refine lv_iadd hx hb dL_law_224 ?_
  refine lv_topi (fun z_6 ez_6 => ?_)
  obtain rfl : z_6 = 1 := ez_6.trans (by decide)
  refine va_sld hx hb hX hbl hbA hS (by unfold vp_in; decide) dL_law_225 ?_
  refine W.eq (g2 := F0 m 226 ls [.int (xs 1), .ref m0]) rfl ?_
  refine lv_aload_n hx hb dL_law_226 rfl (lv_at hl 5 rfl) ?_
  refine lv_iload hx hb dL_law_227 (lv_at hl 1 rfl) ?_
  refine lv_iconst (v := 2) hx hb dL_law_229 (by decide) ?_
  refine lv_iadd hx hb dL_law_230 ?_
  refine lv_topi (fun z_7 ez_7 => ?_)
  obtain rfl : z_7 = 2 := ez_7.trans (by decide)
  refine va_sld hx hb hX hbl hbA hS (by unfold vp_in; decide) dL_law_231 ?_
  refine W.eq (g2 := F0 m 232 ls [.int (xs 2), .int (xs 1), .ref m0]) rfl ?_
  refine go_V (wr := [(ou, .inl (co, 1, .inr (.inl g_4)))]) ⟨hx, hb, hml, hown, hts⟩ (c_X10_feed l dC dI sa hlt _ m0 md mq fs (xs 1) (xs 2) hfs) (cwV 2 hts gL_law_X10_feed rfl rfl rfl (by decide +kernel) ⟨Nat.le_of_ble_eq_true rfl, Nat.le_of_ble_eq_true rfl⟩) hP hD hK hS hA hev [0, 1, 2] [3] [1, 2] rfl rfl rfl rfl (by decide) rfl 0 10 rfl rfl rfl rfl hl.1 rfl (Nat.le_of_ble_eq_true rfl) dL_law_232 ⟨Nat.le_of_ble_eq_true rfl, Nat.le_of_ble_eq_true rfl⟩ (fun r u H locs hw hP hD hK hS => ?_)
  obtain ⟨x_8, J_9⟩ := u
  have hw : r = some (.int x_8) ∧ (E_feed (xs 1) (xs 2) = (J_9 0, x_8)) := hw
  obtain ⟨rfl, hw_10⟩ := hw
  have hP : va_P (dC, dI) vwCl [(ou, .inl (co, 1, .inr (.inl g_4))), (m0, .inr (10, [.int (J_9 0), .int (J_9 1), .int (J_9 2), .int (J_9 3), .ref (md 4), .ref (md 5), .ref (md 6), .ref (md 7), .ref (md 8), .ref (md 9), .ref (md 10), .ref (md 11), .int (J_9 12), .ref (md 13), .ref (md 14), .ref (md 15), .ref (md 16), .ref (md 17), .ref (md 18), .ref (md 19), .int (J_9 20), .int (J_9 21), .int (J_9 22), .int (J_9 23), .int (J_9 24), .int (J_9 25), .ref (md 26), .ref (md 27), .ref (md 28), .ref (md 29), .ref (md 30), .ref (md 31), .ref (md 32), .ref (md 33), .ref (md 34), .ref (md 35), .int (J_9 36), .int (J_9 37), .int (J_9 38), .int (J_9 39), .int (J_9 40), .int (J_9 41), .int (J_9 42), .int (J_9 43), .int (J_9 44), .int (J_9 45), .int (J_9 46), .ref (md 47), .ref (md 48), .ref (md 49), .ref (md 50)]))] _ := hP
  have hD : va_D _ [(ou, .inl (co, 1, .inr (.inl g_4))), (m0, .inr (10, [.int (J_9 0), .int (J_9 1), .int (J_9 2), .int (J_9 3), .ref (md 4), .ref (md 5), .ref (md 6), .ref (md 7), .ref (md 8), .ref (md 9), .ref (md 10), .ref (md 11), .int (J_9 12), .ref (md 13), .ref (md 14), .ref (md 15), .ref (md 16), .ref (md 17), .ref (md 18), .ref (md 19), .int (J_9 20), .int (J_9 21), .int (J_9 22), .int (J_9 23), .int (J_9 24), .int (J_9 25), .ref (md 26), .ref (md 27), .ref (md 28), .ref (md 29), .ref (md 30), .ref (md 31), .ref (md 32), .ref (md 33), .ref (md 34), .ref (md 35), .int (J_9 36), .int (J_9 37), .int (J_9 38), .int (J_9 39), .int (J_9 40), .int (J_9 41), .int (J_9 42), .int (J_9 43), .int (J_9 44), .int (J_9 45), .int (J_9 46), .ref (md 47), .ref (md 48), .ref (md 49), .ref (md 50)]))] := hD
  have hK : va_K (dC, dI) vwCl [((ca 1), .object "VatHouse$Vat"), ((mq 5), .int), ((mq 7), .int), (co, .long)] s := hK
  refine W.eq (g2 := F0 m 235 ls [.int x_8]) rfl ?_
  obtain ⟨y9, hE1, hE2⟩ := hw_5
  obtain ⟨hk9, hy9⟩ := Prod.mk.inj (hE1.symm.trans hw_10)
  refine lv_istore (lv' := [(6, .int x_8), (5, .int k_3), (4, .int 0), (3, .ref ou), (2, .ref m0), (1, .ref x0), (0, .ref b)]) hx hb dL_law_235 hl (by decide) rfl (fun ls hl => ?_)
  refine lv_aload_n hx hb dL_law_237 rfl (lv_at hl 4 rfl) ?_
  refine go_V (wr := [(ou, .inl (co, 1, .inr (.inl g_4)))]) ⟨hx, hb, hml, hown, hts⟩ (c_X10_thrown l dC dI sa hlt _ m0 md J_9 ) (cwV 0 hts gL_law_X10_thrown rfl rfl rfl (by decide +kernel) ⟨Nat.le_of_ble_eq_true rfl, Nat.le_of_ble_eq_true rfl⟩) hP hD hK hS hA hev [1] [0] [] rfl rfl rfl rfl (by decide) rfl 1 10 rfl rfl rfl rfl hl.1 rfl (Nat.le_of_ble_eq_true rfl) dL_law_238 ⟨Nat.le_of_ble_eq_true rfl, Nat.le_of_ble_eq_true rfl⟩ (fun r u H locs hw hP hD hK hS => ?_)
  have hw : r = some (.int (J_9 0)) ∧ (True) := hw
  obtain ⟨rfl, hw_11⟩ := hw
  have hP : va_P (dC, dI) vwCl [(ou, .inl (co, 1, .inr (.inl g_4))), (m0, .inr (10, [.int (J_9 0), .int (J_9 1), .int (J_9 2), .int (J_9 3), .ref (md 4), .ref (md 5), .ref (md 6), .ref (md 7), .ref (md 8), .ref (md 9), .ref (md 10), .ref (md 11), .int (J_9 12), .ref (md 13), .ref (md 14), .ref (md 15), .ref (md 16), .ref (md 17), .ref (md 18), .ref (md 19), .int (J_9 20), .int (J_9 21), .int (J_9 22), .int (J_9 23), .int (J_9 24), .int (J_9 25), .ref (md 26), .ref (md 27), .ref (md 28), .ref (md 29), .ref (md 30), .ref (md 31), .ref (md 32), .ref (md 33), .ref (md 34), .ref (md 35), .int (J_9 36), .int (J_9 37), .int (J_9 38), .int (J_9 39), .int (J_9 40), .int (J_9 41), .int (J_9 42), .int (J_9 43), .int (J_9 44), .int (J_9 45), .int (J_9 46), .ref (md 47), .ref (md 48), .ref (md 49), .ref (md 50)]))] _ := hP
  have hD : va_D _ [(ou, .inl (co, 1, .inr (.inl g_4))), (m0, .inr (10, [.int (J_9 0), .int (J_9 1), .int (J_9 2), .int (J_9 3), .ref (md 4), .ref (md 5), .ref (md 6), .ref (md 7), .ref (md 8), .ref (md 9), .ref (md 10), .ref (md 11), .int (J_9 12), .ref (md 13), .ref (md 14), .ref (md 15), .ref (md 16), .ref (md 17), .ref (md 18), .ref (md 19), .int (J_9 20), .int (J_9 21), .int (J_9 22), .int (J_9 23), .int (J_9 24), .int (J_9 25), .ref (md 26), .ref (md 27), .ref (md 28), .ref (md 29), .ref (md 30), .ref (md 31), .ref (md 32), .ref (md 33), .ref (md 34), .ref (md 35), .int (J_9 36), .int (J_9 37), .int (J_9 38), .int (J_9 39), .int (J_9 40), .int (J_9 41), .int (J_9 42), .int (J_9 43), .int (J_9 44), .int (J_9 45), .int (J_9 46), .ref (md 47), .ref (md 48), .ref (md 49), .ref (md 50)]))] := hD
  have hK : va_K (dC, dI) vwCl [((ca 1), .object "VatHouse$Vat"), ((mq 5), .int), ((mq 7), .int), (co, .long)] s := hK
  refine W.eq (g2 := F0 m 241 ls [.int (J_9 0)]) rfl ?_
  refine lv_iload hx hb dL_law_241 (lv_at hl 1 rfl) ?_
  refine lv_icmp_eq (tgt := 248) hx hb dL_law_243 (by decide) (fun c_12 => ?_) (fun c_12 => ?_)
  rotate_left
  · exact absurd c_12 (fun h => h hk9.symm)
  refine lv_iload hx hb dL_law_248 (lv_at hl 1 rfl) ?_
  refine lv_if_ne (tgt := 265) hx hb dL_law_250 (by decide) (fun c_13 => ?_) (fun c_13 => ?_)
  · refine lv_goto (tgt := 1386) hx hb dL_law_265 (by decide) ?_
    exact law_end (dC := dC) (dI := dI) hlt C0 hev hS (Nat.le_of_ble_eq_true rfl) (Nat.le_of_ble_eq_true rfl) (lv_sub hl [2, 6] rfl)
  · refine lv_aload_n hx hb dL_law_253 rfl (lv_at hl 3 rfl) ?_
    refine lv_iconst (v := 0) hx hb dL_law_254 (by decide) ?_
    refine va_lald hx hb hK hP 0 3 rfl rfl (by unfold vp_in; decide) dL_law_255 ?_
    refine lv_iload hx hb dL_law_256 (lv_at hl 0 rfl) ?_
    refine lv_i2l (v := (x_8).toInt64) hx hb dL_law_258 rfl ?_
    refine W.lcmp hx hb dL_law_259 ?_
    refine lv_topi (fun z_14 ez_14 => ?_)
    refine lv_if_eq (tgt := 265) hx hb dL_law_260 (by decide) (fun c_15 => ?_) (fun c_15 => ?_)
    rotate_left
    · exact absurd c_15 (fun h => h (ez_14.trans (lgc ((hE2 c_13).trans (by rw [hy9])))))
    refine lv_goto (tgt := 1386) hx hb dL_law_265 (by decide) ?_
    exact law_end (dC := dC) (dI := dI) hlt C0 hev hS (Nat.le_of_ble_eq_true rfl) (Nat.le_of_ble_eq_true rfl) (lv_sub hl [2, 6] rfl)

set_option maxHeartbeats 4000000 in
set_option maxRecDepth 100000 in
theorem law_lime {p : Program} {l : Launch} {e : Env} {s : State} {m : MethodId} {below : List Frame} {meth : Method} {c : Code} {b : Nat} {xs : Nat → Int32} (hlt : l.stackTraces = false) (C0 : lw_At p s m meth c b 6 xs) {dC : Nat → ClassId} {dI : Nat → Nat → Nat} {sa : Nat → Nat} (hev : ev sa (fun q : Nat => s.heap.size ≤ q) s s.heap) {H : Heap} {locs : List Loc} {ls : Array Slot} {x0 m0 ou : Nat} {co : ClassId} {ad : Nat → Nat} {ca : Nat → ClassId} {fv : Nat → Option Nat} {qv : Nat} {nn : Int32} {md : Nat → Nat} {mq : Nat → ClassId} {fs : Nat → Int32} (hfv : ∀ k, k < 6 → fv k = some (ad (2 + k))) (hq : ¬ (xs 1) < 0 → ¬ 6 ≤ (xs 1) → ad (2 + (xs 1).toNatClampNeg) = qv) (hfs : ∀ k, k < 6 → fs k = 2) (hK : va_K (dC, dI) vwCl [((ca 1), .object "VatHouse$Vat"), ((mq 5), .int), ((mq 6), .int), ((mq 7), .int), (co, .long)] s) (hP : va_P (dC, dI) vwCl [(x0, .inr (9, [.ref (ad 0), .ref (ad 8), .int 0, .int 0, .ref (ad 9), .int 0, .ref (ad 10), .ref (ad 15), .int 0, .ref (ad 16), .ref (ad 17)])), ((ad 0), .inr (8, [.ref (ad 1), .int 0, .int 0])), ((ad 1), .inl ((ca 1), 6, .inr (.inr (.inr (.inr fv))))), (qv, .inr (7, [.int nn, .int 0, .int 0, .int 0, .int 2, .int 0, .int 0, .int (-2)])), (m0, .inr (10, [.int 0, .int 0, .int 0, .int 0, .ref (md 4), .ref (md 5), .ref (md 6), .ref (md 7), .ref (md 8), .ref (md 9), .ref (md 10), .ref (md 11), .int 0, .ref (md 13), .ref (md 14), .ref (md 15), .ref (md 16), .ref (md 17), .ref (md 18), .ref (md 19), .int 0, .int 0, .int 0, .int 0, .int (-1), .int 0, .ref (md 26), .ref (md 27), .ref (md 28), .ref (md 29), .ref (md 30), .ref (md 31), .ref (md 32), .ref (md 33), .ref (md 34), .ref (md 35), .int 0, .int 0, .int 0, .int 0, .int 0, .int 0, .int 0, .int 0, .int (-1), .int 0, .int 0, .ref (md 47), .ref (md 48), .ref (md 49), .ref (md 50)])), ((md 5), .inl ((mq 5), 6, .inl (fun _ => 0))), ((md 6), .inl ((mq 6), 6, .inl (fun _ => 0))), ((md 7), .inl ((mq 7), 6, .inl fs)), (ou, .inl (co, 1, .inr (.inl (fun _ => 0))))] H) (hD : va_D (fun q : Nat => s.heap.size ≤ q) [(x0, .inr (9, [.ref (ad 0), .ref (ad 8), .int 0, .int 0, .ref (ad 9), .int 0, .ref (ad 10), .ref (ad 15), .int 0, .ref (ad 16), .ref (ad 17)])), ((ad 0), .inr (8, [.ref (ad 1), .int 0, .int 0])), ((ad 1), .inl ((ca 1), 6, .inr (.inr (.inr (.inr fv))))), (qv, .inr (7, [.int nn, .int 0, .int 0, .int 0, .int 2, .int 0, .int 0, .int (-2)])), (m0, .inr (10, [.int 0, .int 0, .int 0, .int 0, .ref (md 4), .ref (md 5), .ref (md 6), .ref (md 7), .ref (md 8), .ref (md 9), .ref (md 10), .ref (md 11), .int 0, .ref (md 13), .ref (md 14), .ref (md 15), .ref (md 16), .ref (md 17), .ref (md 18), .ref (md 19), .int 0, .int 0, .int 0, .int 0, .int (-1), .int 0, .ref (md 26), .ref (md 27), .ref (md 28), .ref (md 29), .ref (md 30), .ref (md 31), .ref (md 32), .ref (md 33), .ref (md 34), .ref (md 35), .int 0, .int 0, .int 0, .int 0, .int 0, .int 0, .int 0, .int 0, .int (-1), .int 0, .int 0, .ref (md 47), .ref (md 48), .ref (md 49), .ref (md 50)])), ((md 5), .inl ((mq 5), 6, .inl (fun _ => 0))), ((md 6), .inl ((mq 6), 6, .inl (fun _ => 0))), ((md 7), .inl ((mq 7), 6, .inl fs)), (ou, .inl (co, 1, .inr (.inl (fun _ => 0))))]) (hS : va_S (fun q : Nat => s.heap.size ≤ q) s.heap H locs) (hl : lv_has ls 7 [(4, .int 0), (3, .ref ou), (2, .ref m0), (1, .ref x0), (0, .ref b)]) : W p l e room_1 s m #[Value.ref b] below meth c H locs 61 29719 (lw_Z below #[Value.ref b] s) (F0 m 268 ls []) := by
  obtain ⟨hx, hb, hr, hml, hown, hts, hX, hbl, hlocks, hgv⟩ := id C0
  have hown : s.vm.findClass RL = some m.cls := hown
  have hA : ∀ q : Nat, s.heap.size ≤ q → (fun q : Nat => s.heap.size ≤ q) q := fun _ h => h
  have hbA : ¬ (fun q : Nat => s.heap.size ≤ q) b := Nat.not_le.mpr hbl
  refine lv_aload_n hx hb dL_law_268 rfl (lv_at hl 3 rfl) ?_
  refine lv_aload_n hx hb dL_law_269 rfl (lv_at hl 4 rfl) ?_
  refine lv_iload hx hb dL_law_270 (lv_at hl 0 rfl) ?_
  refine lv_iconst (v := 1) hx hb dL_law_272 (by decide) ?_
  refine lv_iadd hx hb dL_law_273 ?_
  refine lv_topi (fun z_1 ez_1 => ?_)
  obtain rfl : z_1 = 1 := ez_1.trans (by decide)
  refine va_sld hx hb hX hbl hbA hS (by unfold vp_in; decide) dL_law_274 ?_
  refine W.eq (g2 := F0 m 275 ls [.int (xs 1), .ref x0]) rfl ?_
  refine lv_aload_n hx hb dL_law_275 rfl (lv_at hl 1 rfl) ?_
  refine go_SW (wr := [(m0, .inr (10, [.int 0, .int 0, .int 0, .int 0, .ref (md 4), .ref (md 5), .ref (md 6), .ref (md 7), .ref (md 8), .ref (md 9), .ref (md 10), .ref (md 11), .int 0, .ref (md 13), .ref (md 14), .ref (md 15), .ref (md 16), .ref (md 17), .ref (md 18), .ref (md 19), .int 0, .int 0, .int 0, .int 0, .int (-1), .int 0, .ref (md 26), .ref (md 27), .ref (md 28), .ref (md 29), .ref (md 30), .ref (md 31), .ref (md 32), .ref (md 33), .ref (md 34), .ref (md 35), .int 0, .int 0, .int 0, .int 0, .int 0, .int 0, .int 0, .int 0, .int (-1), .int 0, .int 0, .ref (md 47), .ref (md 48), .ref (md 49), .ref (md 50)])), ((md 5), .inl ((mq 5), 6, .inl (fun _ => 0))), ((md 6), .inl ((mq 6), 6, .inl (fun _ => 0))), ((md 7), .inl ((mq 7), 6, .inl fs))]) ⟨hx, hb, hml, hown, hts⟩ (c_L_lime l dC dI sa hlt _ x0 ad ca fv qv nn ou co (fun _ => 0) (xs 1) hfv hq) (vx_cwSW 3 hts gL_law_L_lime rfl rfl rfl (by decide +kernel) ⟨Nat.le_of_ble_eq_true rfl, Nat.le_of_ble_eq_true rfl⟩) hP hD hK hS hA hev [0, 1, 2, 3, 8] [4, 5, 6, 7] [0, 4] rfl rfl rfl rfl (by decide) rfl rfl hl.1 rfl (Nat.le_of_ble_eq_true rfl) dL_law_276 ⟨Nat.le_of_ble_eq_true rfl, Nat.le_of_ble_eq_true rfl⟩ (fun r u H locs hw hP hD hK hS => ?_)
  obtain ⟨k_2, g_3⟩ := u
  have hw : r = some (.int k_2) ∧ (∃ y : Int32, E_lime (xs 1) = (k_2, y) ∧ (k_2 = 0 → g_3 0 = y.toInt64)) := hw
  obtain ⟨rfl, hw_4⟩ := hw
  have hP : va_P (dC, dI) vwCl [(m0, .inr (10, [.int 0, .int 0, .int 0, .int 0, .ref (md 4), .ref (md 5), .ref (md 6), .ref (md 7), .ref (md 8), .ref (md 9), .ref (md 10), .ref (md 11), .int 0, .ref (md 13), .ref (md 14), .ref (md 15), .ref (md 16), .ref (md 17), .ref (md 18), .ref (md 19), .int 0, .int 0, .int 0, .int 0, .int (-1), .int 0, .ref (md 26), .ref (md 27), .ref (md 28), .ref (md 29), .ref (md 30), .ref (md 31), .ref (md 32), .ref (md 33), .ref (md 34), .ref (md 35), .int 0, .int 0, .int 0, .int 0, .int 0, .int 0, .int 0, .int 0, .int (-1), .int 0, .int 0, .ref (md 47), .ref (md 48), .ref (md 49), .ref (md 50)])), ((md 5), .inl ((mq 5), 6, .inl (fun _ => 0))), ((md 6), .inl ((mq 6), 6, .inl (fun _ => 0))), ((md 7), .inl ((mq 7), 6, .inl fs)), (ou, .inl (co, 1, .inr (.inl g_3)))] _ := hP
  have hD : va_D _ [(m0, .inr (10, [.int 0, .int 0, .int 0, .int 0, .ref (md 4), .ref (md 5), .ref (md 6), .ref (md 7), .ref (md 8), .ref (md 9), .ref (md 10), .ref (md 11), .int 0, .ref (md 13), .ref (md 14), .ref (md 15), .ref (md 16), .ref (md 17), .ref (md 18), .ref (md 19), .int 0, .int 0, .int 0, .int 0, .int (-1), .int 0, .ref (md 26), .ref (md 27), .ref (md 28), .ref (md 29), .ref (md 30), .ref (md 31), .ref (md 32), .ref (md 33), .ref (md 34), .ref (md 35), .int 0, .int 0, .int 0, .int 0, .int 0, .int 0, .int 0, .int 0, .int (-1), .int 0, .int 0, .ref (md 47), .ref (md 48), .ref (md 49), .ref (md 50)])), ((md 5), .inl ((mq 5), 6, .inl (fun _ => 0))), ((md 6), .inl ((mq 6), 6, .inl (fun _ => 0))), ((md 7), .inl ((mq 7), 6, .inl fs)), (ou, .inl (co, 1, .inr (.inl g_3)))] := hD
  have hK : va_K (dC, dI) vwCl [((ca 1), .object "VatHouse$Vat"), ((mq 5), .int), ((mq 6), .int), ((mq 7), .int), (co, .long)] s := hK
  refine W.eq (g2 := F0 m 279 ls [.int k_2]) rfl ?_
  refine lv_istore (lv' := [(5, .int k_2), (4, .int 0), (3, .ref ou), (2, .ref m0), (1, .ref x0), (0, .ref b)]) hx hb dL_law_279 hl (by decide) rfl (fun ls hl => ?_)
  refine lv_aload_n hx hb dL_law_281 rfl (lv_at hl 3 rfl) ?_
  refine lv_aload_n hx hb dL_law_282 rfl (lv_at hl 5 rfl) ?_
  refine lv_iload hx hb dL_law_283 (lv_at hl 1 rfl) ?_
  refine lv_iconst (v := 1) hx hb dL_law_285 (by decide) ?_
  refine lv_iadd hx hb dL_law_286 ?_
  refine lv_topi (fun z_5 ez_5 => ?_)
  obtain rfl : z_5 = 1 := ez_5.trans (by decide)
  refine va_sld hx hb hX hbl hbA hS (by unfold vp_in; decide) dL_law_287 ?_
  refine W.eq (g2 := F0 m 288 ls [.int (xs 1), .ref m0]) rfl ?_
  refine go_V (wr := [(ou, .inl (co, 1, .inr (.inl g_3)))]) ⟨hx, hb, hml, hown, hts⟩ (c_X10_lime l dC dI sa hlt _ m0 md mq fs (xs 1) hfs) (cwV 1 hts gL_law_X10_lime rfl rfl rfl (by decide +kernel) ⟨Nat.le_of_ble_eq_true rfl, Nat.le_of_ble_eq_true rfl⟩) hP hD hK hS hA hev [0, 1, 2, 3] [4] [1, 2, 3] rfl rfl rfl rfl (by decide) rfl 0 10 rfl rfl rfl rfl hl.1 rfl (Nat.le_of_ble_eq_true rfl) dL_law_288 ⟨Nat.le_of_ble_eq_true rfl, Nat.le_of_ble_eq_true rfl⟩ (fun r u H locs hw hP hD hK hS => ?_)
  obtain ⟨x_6, J_7⟩ := u
  have hw : r = some (.int x_6) ∧ (E_lime (xs 1) = (J_7 0, x_6)) := hw
  obtain ⟨rfl, hw_8⟩ := hw
  have hP : va_P (dC, dI) vwCl [(ou, .inl (co, 1, .inr (.inl g_3))), (m0, .inr (10, [.int (J_7 0), .int (J_7 1), .int (J_7 2), .int (J_7 3), .ref (md 4), .ref (md 5), .ref (md 6), .ref (md 7), .ref (md 8), .ref (md 9), .ref (md 10), .ref (md 11), .int (J_7 12), .ref (md 13), .ref (md 14), .ref (md 15), .ref (md 16), .ref (md 17), .ref (md 18), .ref (md 19), .int (J_7 20), .int (J_7 21), .int (J_7 22), .int (J_7 23), .int (J_7 24), .int (J_7 25), .ref (md 26), .ref (md 27), .ref (md 28), .ref (md 29), .ref (md 30), .ref (md 31), .ref (md 32), .ref (md 33), .ref (md 34), .ref (md 35), .int (J_7 36), .int (J_7 37), .int (J_7 38), .int (J_7 39), .int (J_7 40), .int (J_7 41), .int (J_7 42), .int (J_7 43), .int (J_7 44), .int (J_7 45), .int (J_7 46), .ref (md 47), .ref (md 48), .ref (md 49), .ref (md 50)]))] _ := hP
  have hD : va_D _ [(ou, .inl (co, 1, .inr (.inl g_3))), (m0, .inr (10, [.int (J_7 0), .int (J_7 1), .int (J_7 2), .int (J_7 3), .ref (md 4), .ref (md 5), .ref (md 6), .ref (md 7), .ref (md 8), .ref (md 9), .ref (md 10), .ref (md 11), .int (J_7 12), .ref (md 13), .ref (md 14), .ref (md 15), .ref (md 16), .ref (md 17), .ref (md 18), .ref (md 19), .int (J_7 20), .int (J_7 21), .int (J_7 22), .int (J_7 23), .int (J_7 24), .int (J_7 25), .ref (md 26), .ref (md 27), .ref (md 28), .ref (md 29), .ref (md 30), .ref (md 31), .ref (md 32), .ref (md 33), .ref (md 34), .ref (md 35), .int (J_7 36), .int (J_7 37), .int (J_7 38), .int (J_7 39), .int (J_7 40), .int (J_7 41), .int (J_7 42), .int (J_7 43), .int (J_7 44), .int (J_7 45), .int (J_7 46), .ref (md 47), .ref (md 48), .ref (md 49), .ref (md 50)]))] := hD
  have hK : va_K (dC, dI) vwCl [((ca 1), .object "VatHouse$Vat"), ((mq 5), .int), ((mq 6), .int), ((mq 7), .int), (co, .long)] s := hK
  refine W.eq (g2 := F0 m 291 ls [.int x_6]) rfl ?_
  obtain ⟨y9, hE1, hE2⟩ := hw_4
  obtain ⟨hk9, hy9⟩ := Prod.mk.inj (hE1.symm.trans hw_8)
  refine lv_istore (lv' := [(6, .int x_6), (5, .int k_2), (4, .int 0), (3, .ref ou), (2, .ref m0), (1, .ref x0), (0, .ref b)]) hx hb dL_law_291 hl (by decide) rfl (fun ls hl => ?_)
  refine lv_aload_n hx hb dL_law_293 rfl (lv_at hl 4 rfl) ?_
  refine go_V (wr := [(ou, .inl (co, 1, .inr (.inl g_3)))]) ⟨hx, hb, hml, hown, hts⟩ (c_X10_thrown l dC dI sa hlt _ m0 md J_7 ) (cwV 0 hts gL_law_X10_thrown rfl rfl rfl (by decide +kernel) ⟨Nat.le_of_ble_eq_true rfl, Nat.le_of_ble_eq_true rfl⟩) hP hD hK hS hA hev [1] [0] [] rfl rfl rfl rfl (by decide) rfl 1 10 rfl rfl rfl rfl hl.1 rfl (Nat.le_of_ble_eq_true rfl) dL_law_294 ⟨Nat.le_of_ble_eq_true rfl, Nat.le_of_ble_eq_true rfl⟩ (fun r u H locs hw hP hD hK hS => ?_)
  have hw : r = some (.int (J_7 0)) ∧ (True) := hw
  obtain ⟨rfl, hw_9⟩ := hw
  have hP : va_P (dC, dI) vwCl [(ou, .inl (co, 1, .inr (.inl g_3))), (m0, .inr (10, [.int (J_7 0), .int (J_7 1), .int (J_7 2), .int (J_7 3), .ref (md 4), .ref (md 5), .ref (md 6), .ref (md 7), .ref (md 8), .ref (md 9), .ref (md 10), .ref (md 11), .int (J_7 12), .ref (md 13), .ref (md 14), .ref (md 15), .ref (md 16), .ref (md 17), .ref (md 18), .ref (md 19), .int (J_7 20), .int (J_7 21), .int (J_7 22), .int (J_7 23), .int (J_7 24), .int (J_7 25), .ref (md 26), .ref (md 27), .ref (md 28), .ref (md 29), .ref (md 30), .ref (md 31), .ref (md 32), .ref (md 33), .ref (md 34), .ref (md 35), .int (J_7 36), .int (J_7 37), .int (J_7 38), .int (J_7 39), .int (J_7 40), .int (J_7 41), .int (J_7 42), .int (J_7 43), .int (J_7 44), .int (J_7 45), .int (J_7 46), .ref (md 47), .ref (md 48), .ref (md 49), .ref (md 50)]))] _ := hP
  have hD : va_D _ [(ou, .inl (co, 1, .inr (.inl g_3))), (m0, .inr (10, [.int (J_7 0), .int (J_7 1), .int (J_7 2), .int (J_7 3), .ref (md 4), .ref (md 5), .ref (md 6), .ref (md 7), .ref (md 8), .ref (md 9), .ref (md 10), .ref (md 11), .int (J_7 12), .ref (md 13), .ref (md 14), .ref (md 15), .ref (md 16), .ref (md 17), .ref (md 18), .ref (md 19), .int (J_7 20), .int (J_7 21), .int (J_7 22), .int (J_7 23), .int (J_7 24), .int (J_7 25), .ref (md 26), .ref (md 27), .ref (md 28), .ref (md 29), .ref (md 30), .ref (md 31), .ref (md 32), .ref (md 33), .ref (md 34), .ref (md 35), .int (J_7 36), .int (J_7 37), .int (J_7 38), .int (J_7 39), .int (J_7 40), .int (J_7 41), .int (J_7 42), .int (J_7 43), .int (J_7 44), .int (J_7 45), .int (J_7 46), .ref (md 47), .ref (md 48), .ref (md 49), .ref (md 50)]))] := hD
  have hK : va_K (dC, dI) vwCl [((ca 1), .object "VatHouse$Vat"), ((mq 5), .int), ((mq 6), .int), ((mq 7), .int), (co, .long)] s := hK
  refine W.eq (g2 := F0 m 297 ls [.int (J_7 0)]) rfl ?_
  refine lv_iload hx hb dL_law_297 (lv_at hl 1 rfl) ?_
  refine lv_icmp_eq (tgt := 304) hx hb dL_law_299 (by decide) (fun c_10 => ?_) (fun c_10 => ?_)
  rotate_left
  · exact absurd c_10 (fun h => h hk9.symm)
  refine lv_iload hx hb dL_law_304 (lv_at hl 1 rfl) ?_
  refine lv_if_ne (tgt := 321) hx hb dL_law_306 (by decide) (fun c_11 => ?_) (fun c_11 => ?_)
  · refine lv_goto (tgt := 1386) hx hb dL_law_321 (by decide) ?_
    exact law_end (dC := dC) (dI := dI) hlt C0 hev hS (Nat.le_of_ble_eq_true rfl) (Nat.le_of_ble_eq_true rfl) (lv_sub hl [2, 6] rfl)
  · refine lv_aload_n hx hb dL_law_309 rfl (lv_at hl 3 rfl) ?_
    refine lv_iconst (v := 0) hx hb dL_law_310 (by decide) ?_
    refine va_lald hx hb hK hP 0 4 rfl rfl (by unfold vp_in; decide) dL_law_311 ?_
    refine lv_iload hx hb dL_law_312 (lv_at hl 0 rfl) ?_
    refine lv_i2l (v := (x_6).toInt64) hx hb dL_law_314 rfl ?_
    refine W.lcmp hx hb dL_law_315 ?_
    refine lv_topi (fun z_12 ez_12 => ?_)
    refine lv_if_eq (tgt := 321) hx hb dL_law_316 (by decide) (fun c_13 => ?_) (fun c_13 => ?_)
    rotate_left
    · exact absurd c_13 (fun h => h (ez_12.trans (lgc ((hE2 c_11).trans (by rw [hy9])))))
    refine lv_goto (tgt := 1386) hx hb dL_law_321 (by decide) ?_
    exact law_end (dC := dC) (dI := dI) hlt C0 hev hS (Nat.le_of_ble_eq_true rfl) (Nat.le_of_ble_eq_true rfl) (lv_sub hl [2, 6] rfl)

set_option maxHeartbeats 4000000 in
set_option maxRecDepth 100000 in
theorem law_hours {p : Program} {l : Launch} {e : Env} {s : State} {m : MethodId} {below : List Frame} {meth : Method} {c : Code} {b : Nat} {xs : Nat → Int32} (hlt : l.stackTraces = false) (C0 : lw_At p s m meth c b 6 xs) {dC : Nat → ClassId} {dI : Nat → Nat → Nat} {sa : Nat → Nat} (hev : ev sa (fun q : Nat => s.heap.size ≤ q) s s.heap) {H : Heap} {locs : List Loc} {ls : Array Slot} {x0 m0 ou : Nat} {co : ClassId} {ad : Nat → Nat} {ca : Nat → ClassId} {fv : Nat → Option Nat} {md : Nat → Nat} {mq : Nat → ClassId} {fs : Nat → Int32} (hfv : ∀ k, k < 6 → fv k = some (ad (2 + k))) (hK : va_K (dC, dI) vwCl [((ca 1), .object "VatHouse$Vat"), ((mq 5), .int), ((mq 6), .int), ((mq 7), .int), ((mq 10), .boolean), ((mq 11), .boolean), (co, .long)] s) (hP : va_P (dC, dI) vwCl [(x0, .inr (9, [.ref (ad 0), .ref (ad 8), .int 0, .int 0, .ref (ad 9), .int 0, .ref (ad 10), .ref (ad 15), .int 0, .ref (ad 16), .ref (ad 17)])), ((ad 0), .inr (8, [.ref (ad 1), .int 0, .int 0])), ((ad 1), .inl ((ca 1), 6, .inr (.inr (.inr (.inr fv))))), ((ad 2), .inr (7, [.int 0, .int 0, .int 0, .int 0, .int 2, .int 0, .int 0, .int (-2)])), ((ad 3), .inr (7, [.int 1, .int 0, .int 0, .int 0, .int 2, .int 0, .int 0, .int (-2)])), ((ad 4), .inr (7, [.int 2, .int 0, .int 0, .int 0, .int 2, .int 0, .int 0, .int (-2)])), ((ad 5), .inr (7, [.int 3, .int 0, .int 0, .int 0, .int 2, .int 0, .int 0, .int (-2)])), ((ad 6), .inr (7, [.int 4, .int 0, .int 0, .int 0, .int 2, .int 0, .int 0, .int (-2)])), ((ad 7), .inr (7, [.int 5, .int 0, .int 0, .int 0, .int 2, .int 0, .int 0, .int (-2)])), (m0, .inr (10, [.int 0, .int 0, .int 0, .int 0, .ref (md 4), .ref (md 5), .ref (md 6), .ref (md 7), .ref (md 8), .ref (md 9), .ref (md 10), .ref (md 11), .int 0, .ref (md 13), .ref (md 14), .ref (md 15), .ref (md 16), .ref (md 17), .ref (md 18), .ref (md 19), .int 0, .int 0, .int 0, .int 0, .int (-1), .int 0, .ref (md 26), .ref (md 27), .ref (md 28), .ref (md 29), .ref (md 30), .ref (md 31), .ref (md 32), .ref (md 33), .ref (md 34), .ref (md 35), .int 0, .int 0, .int 0, .int 0, .int 0, .int 0, .int 0, .int 0, .int (-1), .int 0, .int 0, .ref (md 47), .ref (md 48), .ref (md 49), .ref (md 50)])), ((md 5), .inl ((mq 5), 6, .inl (fun _ => 0))), ((md 6), .inl ((mq 6), 6, .inl (fun _ => 0))), ((md 7), .inl ((mq 7), 6, .inl fs)), ((md 10), .inl ((mq 10), 6, .inl (fun _ => 0))), ((md 11), .inl ((mq 11), 6, .inl (fun _ => 0))), (ou, .inl (co, 1, .inr (.inl (fun _ => 0))))] H) (hD : va_D (fun q : Nat => s.heap.size ≤ q) [(x0, .inr (9, [.ref (ad 0), .ref (ad 8), .int 0, .int 0, .ref (ad 9), .int 0, .ref (ad 10), .ref (ad 15), .int 0, .ref (ad 16), .ref (ad 17)])), ((ad 0), .inr (8, [.ref (ad 1), .int 0, .int 0])), ((ad 1), .inl ((ca 1), 6, .inr (.inr (.inr (.inr fv))))), ((ad 2), .inr (7, [.int 0, .int 0, .int 0, .int 0, .int 2, .int 0, .int 0, .int (-2)])), ((ad 3), .inr (7, [.int 1, .int 0, .int 0, .int 0, .int 2, .int 0, .int 0, .int (-2)])), ((ad 4), .inr (7, [.int 2, .int 0, .int 0, .int 0, .int 2, .int 0, .int 0, .int (-2)])), ((ad 5), .inr (7, [.int 3, .int 0, .int 0, .int 0, .int 2, .int 0, .int 0, .int (-2)])), ((ad 6), .inr (7, [.int 4, .int 0, .int 0, .int 0, .int 2, .int 0, .int 0, .int (-2)])), ((ad 7), .inr (7, [.int 5, .int 0, .int 0, .int 0, .int 2, .int 0, .int 0, .int (-2)])), (m0, .inr (10, [.int 0, .int 0, .int 0, .int 0, .ref (md 4), .ref (md 5), .ref (md 6), .ref (md 7), .ref (md 8), .ref (md 9), .ref (md 10), .ref (md 11), .int 0, .ref (md 13), .ref (md 14), .ref (md 15), .ref (md 16), .ref (md 17), .ref (md 18), .ref (md 19), .int 0, .int 0, .int 0, .int 0, .int (-1), .int 0, .ref (md 26), .ref (md 27), .ref (md 28), .ref (md 29), .ref (md 30), .ref (md 31), .ref (md 32), .ref (md 33), .ref (md 34), .ref (md 35), .int 0, .int 0, .int 0, .int 0, .int 0, .int 0, .int 0, .int 0, .int (-1), .int 0, .int 0, .ref (md 47), .ref (md 48), .ref (md 49), .ref (md 50)])), ((md 5), .inl ((mq 5), 6, .inl (fun _ => 0))), ((md 6), .inl ((mq 6), 6, .inl (fun _ => 0))), ((md 7), .inl ((mq 7), 6, .inl fs)), ((md 10), .inl ((mq 10), 6, .inl (fun _ => 0))), ((md 11), .inl ((mq 11), 6, .inl (fun _ => 0))), (ou, .inl (co, 1, .inr (.inl (fun _ => 0))))]) (hS : va_S (fun q : Nat => s.heap.size ≤ q) s.heap H locs) (hl : lv_has ls 7 [(4, .int 0), (3, .ref ou), (2, .ref m0), (1, .ref x0), (0, .ref b)]) : W p l e room_1 s m #[Value.ref b] below meth c H locs 61 29719 (lw_Z below #[Value.ref b] s) (F0 m 324 ls []) := by
  obtain ⟨hx, hb, hr, hml, hown, hts, hX, hbl, hlocks, hgv⟩ := id C0
  have hown : s.vm.findClass RL = some m.cls := hown
  have hA : ∀ q : Nat, s.heap.size ≤ q → (fun q : Nat => s.heap.size ≤ q) q := fun _ h => h
  have hbA : ¬ (fun q : Nat => s.heap.size ≤ q) b := Nat.not_le.mpr hbl
  refine lv_aload_n hx hb dL_law_324 rfl (lv_at hl 3 rfl) ?_
  refine lv_aload_n hx hb dL_law_325 rfl (lv_at hl 4 rfl) ?_
  refine lv_iload hx hb dL_law_326 (lv_at hl 0 rfl) ?_
  refine lv_iconst (v := 1) hx hb dL_law_328 (by decide) ?_
  refine lv_iadd hx hb dL_law_329 ?_
  refine lv_topi (fun z_1 ez_1 => ?_)
  obtain rfl : z_1 = 1 := ez_1.trans (by decide)
  refine va_sld hx hb hX hbl hbA hS (by unfold vp_in; decide) dL_law_330 ?_
  refine W.eq (g2 := F0 m 331 ls [.int (xs 1), .ref x0]) rfl ?_
  refine lv_aload_n hx hb dL_law_331 rfl (lv_at hl 1 rfl) ?_
  refine go_SW (wr := [(m0, .inr (10, [.int 0, .int 0, .int 0, .int 0, .ref (md 4), .ref (md 5), .ref (md 6), .ref (md 7), .ref (md 8), .ref (md 9), .ref (md 10), .ref (md 11), .int 0, .ref (md 13), .ref (md 14), .ref (md 15), .ref (md 16), .ref (md 17), .ref (md 18), .ref (md 19), .int 0, .int 0, .int 0, .int 0, .int (-1), .int 0, .ref (md 26), .ref (md 27), .ref (md 28), .ref (md 29), .ref (md 30), .ref (md 31), .ref (md 32), .ref (md 33), .ref (md 34), .ref (md 35), .int 0, .int 0, .int 0, .int 0, .int 0, .int 0, .int 0, .int 0, .int (-1), .int 0, .int 0, .ref (md 47), .ref (md 48), .ref (md 49), .ref (md 50)])), ((md 5), .inl ((mq 5), 6, .inl (fun _ => 0))), ((md 6), .inl ((mq 6), 6, .inl (fun _ => 0))), ((md 7), .inl ((mq 7), 6, .inl fs)), ((md 10), .inl ((mq 10), 6, .inl (fun _ => 0))), ((md 11), .inl ((mq 11), 6, .inl (fun _ => 0)))]) ⟨hx, hb, hml, hown, hts⟩ (c_L_hours l dC dI sa hlt _ x0 ad ca fv ou co (fun _ => 0) (xs 1) hfv) (vx_cwSW 3 hts gL_law_L_hours rfl rfl rfl (by decide +kernel) ⟨Nat.le_of_ble_eq_true rfl, Nat.le_of_ble_eq_true rfl⟩) hP hD hK hS hA hev [0, 1, 2, 3, 4, 5, 6, 7, 8, 15] [9, 10, 11, 12, 13, 14] [0, 6] rfl rfl rfl rfl (by decide) rfl rfl hl.1 rfl (Nat.le_of_ble_eq_true rfl) dL_law_332 ⟨Nat.le_of_ble_eq_true rfl, Nat.le_of_ble_eq_true rfl⟩ (fun r u H locs hw hP hD hK hS => ?_)
  obtain ⟨k_2, g_3⟩ := u
  have hw : r = some (.int k_2) ∧ (∃ y : Int32, E_hours (xs 1) = (k_2, y) ∧ (k_2 = 0 → g_3 0 = y.toInt64)) := hw
  obtain ⟨rfl, hw_4⟩ := hw
  have hP : va_P (dC, dI) vwCl [(m0, .inr (10, [.int 0, .int 0, .int 0, .int 0, .ref (md 4), .ref (md 5), .ref (md 6), .ref (md 7), .ref (md 8), .ref (md 9), .ref (md 10), .ref (md 11), .int 0, .ref (md 13), .ref (md 14), .ref (md 15), .ref (md 16), .ref (md 17), .ref (md 18), .ref (md 19), .int 0, .int 0, .int 0, .int 0, .int (-1), .int 0, .ref (md 26), .ref (md 27), .ref (md 28), .ref (md 29), .ref (md 30), .ref (md 31), .ref (md 32), .ref (md 33), .ref (md 34), .ref (md 35), .int 0, .int 0, .int 0, .int 0, .int 0, .int 0, .int 0, .int 0, .int (-1), .int 0, .int 0, .ref (md 47), .ref (md 48), .ref (md 49), .ref (md 50)])), ((md 5), .inl ((mq 5), 6, .inl (fun _ => 0))), ((md 6), .inl ((mq 6), 6, .inl (fun _ => 0))), ((md 7), .inl ((mq 7), 6, .inl fs)), ((md 10), .inl ((mq 10), 6, .inl (fun _ => 0))), ((md 11), .inl ((mq 11), 6, .inl (fun _ => 0))), (ou, .inl (co, 1, .inr (.inl g_3)))] _ := hP
  have hD : va_D _ [(m0, .inr (10, [.int 0, .int 0, .int 0, .int 0, .ref (md 4), .ref (md 5), .ref (md 6), .ref (md 7), .ref (md 8), .ref (md 9), .ref (md 10), .ref (md 11), .int 0, .ref (md 13), .ref (md 14), .ref (md 15), .ref (md 16), .ref (md 17), .ref (md 18), .ref (md 19), .int 0, .int 0, .int 0, .int 0, .int (-1), .int 0, .ref (md 26), .ref (md 27), .ref (md 28), .ref (md 29), .ref (md 30), .ref (md 31), .ref (md 32), .ref (md 33), .ref (md 34), .ref (md 35), .int 0, .int 0, .int 0, .int 0, .int 0, .int 0, .int 0, .int 0, .int (-1), .int 0, .int 0, .ref (md 47), .ref (md 48), .ref (md 49), .ref (md 50)])), ((md 5), .inl ((mq 5), 6, .inl (fun _ => 0))), ((md 6), .inl ((mq 6), 6, .inl (fun _ => 0))), ((md 7), .inl ((mq 7), 6, .inl fs)), ((md 10), .inl ((mq 10), 6, .inl (fun _ => 0))), ((md 11), .inl ((mq 11), 6, .inl (fun _ => 0))), (ou, .inl (co, 1, .inr (.inl g_3)))] := hD
  have hK : va_K (dC, dI) vwCl [((ca 1), .object "VatHouse$Vat"), ((mq 5), .int), ((mq 6), .int), ((mq 7), .int), ((mq 10), .boolean), ((mq 11), .boolean), (co, .long)] s := hK
  refine W.eq (g2 := F0 m 335 ls [.int k_2]) rfl ?_
  refine lv_istore (lv' := [(5, .int k_2), (4, .int 0), (3, .ref ou), (2, .ref m0), (1, .ref x0), (0, .ref b)]) hx hb dL_law_335 hl (by decide) rfl (fun ls hl => ?_)
  refine lv_aload_n hx hb dL_law_337 rfl (lv_at hl 3 rfl) ?_
  refine lv_aload_n hx hb dL_law_338 rfl (lv_at hl 5 rfl) ?_
  refine lv_iload hx hb dL_law_339 (lv_at hl 1 rfl) ?_
  refine lv_iconst (v := 1) hx hb dL_law_341 (by decide) ?_
  refine lv_iadd hx hb dL_law_342 ?_
  refine lv_topi (fun z_5 ez_5 => ?_)
  obtain rfl : z_5 = 1 := ez_5.trans (by decide)
  refine va_sld hx hb hX hbl hbA hS (by unfold vp_in; decide) dL_law_343 ?_
  refine W.eq (g2 := F0 m 344 ls [.int (xs 1), .ref m0]) rfl ?_
  refine go_V (wr := [(ou, .inl (co, 1, .inr (.inl g_3)))]) ⟨hx, hb, hml, hown, hts⟩ (c_X10_hours l dC dI sa hlt _ m0 md mq fs (xs 1) ) (cwV 1 hts gL_law_X10_hours rfl rfl rfl (by decide +kernel) ⟨Nat.le_of_ble_eq_true rfl, Nat.le_of_ble_eq_true rfl⟩) hP hD hK hS hA hev [0, 1, 2, 3, 4, 5] [6] [1, 2, 3, 4, 5] rfl rfl rfl rfl (by decide) rfl 0 10 rfl rfl rfl rfl hl.1 rfl (Nat.le_of_ble_eq_true rfl) dL_law_344 ⟨Nat.le_of_ble_eq_true rfl, Nat.le_of_ble_eq_true rfl⟩ (fun r u H locs hw hP hD hK hS => ?_)
  obtain ⟨x_6, J_7⟩ := u
  have hw : r = some (.int x_6) ∧ (E_hours (xs 1) = (J_7 0, x_6)) := hw
  obtain ⟨rfl, hw_8⟩ := hw
  have hP : va_P (dC, dI) vwCl [(ou, .inl (co, 1, .inr (.inl g_3))), (m0, .inr (10, [.int (J_7 0), .int (J_7 1), .int (J_7 2), .int (J_7 3), .ref (md 4), .ref (md 5), .ref (md 6), .ref (md 7), .ref (md 8), .ref (md 9), .ref (md 10), .ref (md 11), .int (J_7 12), .ref (md 13), .ref (md 14), .ref (md 15), .ref (md 16), .ref (md 17), .ref (md 18), .ref (md 19), .int (J_7 20), .int (J_7 21), .int (J_7 22), .int (J_7 23), .int (J_7 24), .int (J_7 25), .ref (md 26), .ref (md 27), .ref (md 28), .ref (md 29), .ref (md 30), .ref (md 31), .ref (md 32), .ref (md 33), .ref (md 34), .ref (md 35), .int (J_7 36), .int (J_7 37), .int (J_7 38), .int (J_7 39), .int (J_7 40), .int (J_7 41), .int (J_7 42), .int (J_7 43), .int (J_7 44), .int (J_7 45), .int (J_7 46), .ref (md 47), .ref (md 48), .ref (md 49), .ref (md 50)]))] _ := hP
  have hD : va_D _ [(ou, .inl (co, 1, .inr (.inl g_3))), (m0, .inr (10, [.int (J_7 0), .int (J_7 1), .int (J_7 2), .int (J_7 3), .ref (md 4), .ref (md 5), .ref (md 6), .ref (md 7), .ref (md 8), .ref (md 9), .ref (md 10), .ref (md 11), .int (J_7 12), .ref (md 13), .ref (md 14), .ref (md 15), .ref (md 16), .ref (md 17), .ref (md 18), .ref (md 19), .int (J_7 20), .int (J_7 21), .int (J_7 22), .int (J_7 23), .int (J_7 24), .int (J_7 25), .ref (md 26), .ref (md 27), .ref (md 28), .ref (md 29), .ref (md 30), .ref (md 31), .ref (md 32), .ref (md 33), .ref (md 34), .ref (md 35), .int (J_7 36), .int (J_7 37), .int (J_7 38), .int (J_7 39), .int (J_7 40), .int (J_7 41), .int (J_7 42), .int (J_7 43), .int (J_7 44), .int (J_7 45), .int (J_7 46), .ref (md 47), .ref (md 48), .ref (md 49), .ref (md 50)]))] := hD
  have hK : va_K (dC, dI) vwCl [((ca 1), .object "VatHouse$Vat"), ((mq 5), .int), ((mq 6), .int), ((mq 7), .int), ((mq 10), .boolean), ((mq 11), .boolean), (co, .long)] s := hK
  refine W.eq (g2 := F0 m 347 ls [.int x_6]) rfl ?_
  obtain ⟨y9, hE1, hE2⟩ := hw_4
  obtain ⟨hk9, hy9⟩ := Prod.mk.inj (hE1.symm.trans hw_8)
  refine lv_istore (lv' := [(6, .int x_6), (5, .int k_2), (4, .int 0), (3, .ref ou), (2, .ref m0), (1, .ref x0), (0, .ref b)]) hx hb dL_law_347 hl (by decide) rfl (fun ls hl => ?_)
  refine lv_aload_n hx hb dL_law_349 rfl (lv_at hl 4 rfl) ?_
  refine go_V (wr := [(ou, .inl (co, 1, .inr (.inl g_3)))]) ⟨hx, hb, hml, hown, hts⟩ (c_X10_thrown l dC dI sa hlt _ m0 md J_7 ) (cwV 0 hts gL_law_X10_thrown rfl rfl rfl (by decide +kernel) ⟨Nat.le_of_ble_eq_true rfl, Nat.le_of_ble_eq_true rfl⟩) hP hD hK hS hA hev [1] [0] [] rfl rfl rfl rfl (by decide) rfl 1 10 rfl rfl rfl rfl hl.1 rfl (Nat.le_of_ble_eq_true rfl) dL_law_350 ⟨Nat.le_of_ble_eq_true rfl, Nat.le_of_ble_eq_true rfl⟩ (fun r u H locs hw hP hD hK hS => ?_)
  have hw : r = some (.int (J_7 0)) ∧ (True) := hw
  obtain ⟨rfl, hw_9⟩ := hw
  have hP : va_P (dC, dI) vwCl [(ou, .inl (co, 1, .inr (.inl g_3))), (m0, .inr (10, [.int (J_7 0), .int (J_7 1), .int (J_7 2), .int (J_7 3), .ref (md 4), .ref (md 5), .ref (md 6), .ref (md 7), .ref (md 8), .ref (md 9), .ref (md 10), .ref (md 11), .int (J_7 12), .ref (md 13), .ref (md 14), .ref (md 15), .ref (md 16), .ref (md 17), .ref (md 18), .ref (md 19), .int (J_7 20), .int (J_7 21), .int (J_7 22), .int (J_7 23), .int (J_7 24), .int (J_7 25), .ref (md 26), .ref (md 27), .ref (md 28), .ref (md 29), .ref (md 30), .ref (md 31), .ref (md 32), .ref (md 33), .ref (md 34), .ref (md 35), .int (J_7 36), .int (J_7 37), .int (J_7 38), .int (J_7 39), .int (J_7 40), .int (J_7 41), .int (J_7 42), .int (J_7 43), .int (J_7 44), .int (J_7 45), .int (J_7 46), .ref (md 47), .ref (md 48), .ref (md 49), .ref (md 50)]))] _ := hP
  have hD : va_D _ [(ou, .inl (co, 1, .inr (.inl g_3))), (m0, .inr (10, [.int (J_7 0), .int (J_7 1), .int (J_7 2), .int (J_7 3), .ref (md 4), .ref (md 5), .ref (md 6), .ref (md 7), .ref (md 8), .ref (md 9), .ref (md 10), .ref (md 11), .int (J_7 12), .ref (md 13), .ref (md 14), .ref (md 15), .ref (md 16), .ref (md 17), .ref (md 18), .ref (md 19), .int (J_7 20), .int (J_7 21), .int (J_7 22), .int (J_7 23), .int (J_7 24), .int (J_7 25), .ref (md 26), .ref (md 27), .ref (md 28), .ref (md 29), .ref (md 30), .ref (md 31), .ref (md 32), .ref (md 33), .ref (md 34), .ref (md 35), .int (J_7 36), .int (J_7 37), .int (J_7 38), .int (J_7 39), .int (J_7 40), .int (J_7 41), .int (J_7 42), .int (J_7 43), .int (J_7 44), .int (J_7 45), .int (J_7 46), .ref (md 47), .ref (md 48), .ref (md 49), .ref (md 50)]))] := hD
  have hK : va_K (dC, dI) vwCl [((ca 1), .object "VatHouse$Vat"), ((mq 5), .int), ((mq 6), .int), ((mq 7), .int), ((mq 10), .boolean), ((mq 11), .boolean), (co, .long)] s := hK
  refine W.eq (g2 := F0 m 353 ls [.int (J_7 0)]) rfl ?_
  refine lv_iload hx hb dL_law_353 (lv_at hl 1 rfl) ?_
  refine lv_icmp_eq (tgt := 360) hx hb dL_law_355 (by decide) (fun c_10 => ?_) (fun c_10 => ?_)
  rotate_left
  · exact absurd c_10 (fun h => h hk9.symm)
  refine lv_iload hx hb dL_law_360 (lv_at hl 1 rfl) ?_
  refine lv_if_ne (tgt := 377) hx hb dL_law_362 (by decide) (fun c_11 => ?_) (fun c_11 => ?_)
  · refine lv_goto (tgt := 1386) hx hb dL_law_377 (by decide) ?_
    exact law_end (dC := dC) (dI := dI) hlt C0 hev hS (Nat.le_of_ble_eq_true rfl) (Nat.le_of_ble_eq_true rfl) (lv_sub hl [2, 6] rfl)
  · refine lv_aload_n hx hb dL_law_365 rfl (lv_at hl 3 rfl) ?_
    refine lv_iconst (v := 0) hx hb dL_law_366 (by decide) ?_
    refine va_lald hx hb hK hP 0 6 rfl rfl (by unfold vp_in; decide) dL_law_367 ?_
    refine lv_iload hx hb dL_law_368 (lv_at hl 0 rfl) ?_
    refine lv_i2l (v := (x_6).toInt64) hx hb dL_law_370 rfl ?_
    refine W.lcmp hx hb dL_law_371 ?_
    refine lv_topi (fun z_12 ez_12 => ?_)
    refine lv_if_eq (tgt := 377) hx hb dL_law_372 (by decide) (fun c_13 => ?_) (fun c_13 => ?_)
    rotate_left
    · exact absurd c_13 (fun h => h (ez_12.trans (lgc ((hE2 c_11).trans (by rw [hy9])))))
    refine lv_goto (tgt := 1386) hx hb dL_law_377 (by decide) ?_
    exact law_end (dC := dC) (dI := dI) hlt C0 hev hS (Nat.le_of_ble_eq_true rfl) (Nat.le_of_ble_eq_true rfl) (lv_sub hl [2, 6] rfl)

set_option maxHeartbeats 4000000 in
set_option maxRecDepth 100000 in
theorem law_cloth {p : Program} {l : Launch} {e : Env} {s : State} {m : MethodId} {below : List Frame} {meth : Method} {c : Code} {b : Nat} {xs : Nat → Int32} (hlt : l.stackTraces = false) (C0 : lw_At p s m meth c b 6 xs) {dC : Nat → ClassId} {dI : Nat → Nat → Nat} {sa : Nat → Nat} (hev : ev sa (fun q : Nat => s.heap.size ≤ q) s s.heap) {H : Heap} {locs : List Loc} {ls : Array Slot} {x0 m0 ou : Nat} {co : ClassId} {ad : Nat → Nat} {ca : Nat → ClassId} {md : Nat → Nat} {mq : Nat → ClassId} (hK : va_K (dC, dI) vwCl [((ca 8), .object "VatHouse$Cloth"), ((mq 13), .int), (co, .long)] s) (hP : va_P (dC, dI) vwCl [(x0, .inr (9, [.ref (ad 0), .ref (ad 8), .int 0, .int 0, .ref (ad 9), .int 0, .ref (ad 10), .ref (ad 15), .int 0, .ref (ad 16), .ref (ad 17)])), ((ad 8), .inl ((ca 8), 30, .inr (.inr (.inr (.inr (fun _ => none)))))), (m0, .inr (10, [.int 0, .int 0, .int 0, .int 0, .ref (md 4), .ref (md 5), .ref (md 6), .ref (md 7), .ref (md 8), .ref (md 9), .ref (md 10), .ref (md 11), .int 0, .ref (md 13), .ref (md 14), .ref (md 15), .ref (md 16), .ref (md 17), .ref (md 18), .ref (md 19), .int 0, .int 0, .int 0, .int 0, .int (-1), .int 0, .ref (md 26), .ref (md 27), .ref (md 28), .ref (md 29), .ref (md 30), .ref (md 31), .ref (md 32), .ref (md 33), .ref (md 34), .ref (md 35), .int 0, .int 0, .int 0, .int 0, .int 0, .int 0, .int 0, .int 0, .int (-1), .int 0, .int 0, .ref (md 47), .ref (md 48), .ref (md 49), .ref (md 50)])), ((md 13), .inl ((mq 13), 30, .inl (fun _ => 0))), (ou, .inl (co, 1, .inr (.inl (fun _ => 0))))] H) (hD : va_D (fun q : Nat => s.heap.size ≤ q) [(x0, .inr (9, [.ref (ad 0), .ref (ad 8), .int 0, .int 0, .ref (ad 9), .int 0, .ref (ad 10), .ref (ad 15), .int 0, .ref (ad 16), .ref (ad 17)])), ((ad 8), .inl ((ca 8), 30, .inr (.inr (.inr (.inr (fun _ => none)))))), (m0, .inr (10, [.int 0, .int 0, .int 0, .int 0, .ref (md 4), .ref (md 5), .ref (md 6), .ref (md 7), .ref (md 8), .ref (md 9), .ref (md 10), .ref (md 11), .int 0, .ref (md 13), .ref (md 14), .ref (md 15), .ref (md 16), .ref (md 17), .ref (md 18), .ref (md 19), .int 0, .int 0, .int 0, .int 0, .int (-1), .int 0, .ref (md 26), .ref (md 27), .ref (md 28), .ref (md 29), .ref (md 30), .ref (md 31), .ref (md 32), .ref (md 33), .ref (md 34), .ref (md 35), .int 0, .int 0, .int 0, .int 0, .int 0, .int 0, .int 0, .int 0, .int (-1), .int 0, .int 0, .ref (md 47), .ref (md 48), .ref (md 49), .ref (md 50)])), ((md 13), .inl ((mq 13), 30, .inl (fun _ => 0))), (ou, .inl (co, 1, .inr (.inl (fun _ => 0))))]) (hS : va_S (fun q : Nat => s.heap.size ≤ q) s.heap H locs) (hl : lv_has ls 7 [(4, .int 0), (3, .ref ou), (2, .ref m0), (1, .ref x0), (0, .ref b)]) : W p l e room_1 s m #[Value.ref b] below meth c H locs 61 29719 (lw_Z below #[Value.ref b] s) (F0 m 380 ls []) := by
  obtain ⟨hx, hb, hr, hml, hown, hts, hX, hbl, hlocks, hgv⟩ := id C0
  have hown : s.vm.findClass RL = some m.cls := hown
  have hA : ∀ q : Nat, s.heap.size ≤ q → (fun q : Nat => s.heap.size ≤ q) q := fun _ h => h
  have hbA : ¬ (fun q : Nat => s.heap.size ≤ q) b := Nat.not_le.mpr hbl
  refine lv_aload_n hx hb dL_law_380 rfl (lv_at hl 3 rfl) ?_
  refine lv_aload_n hx hb dL_law_381 rfl (lv_at hl 4 rfl) ?_
  refine lv_iload hx hb dL_law_382 (lv_at hl 0 rfl) ?_
  refine lv_iconst (v := 1) hx hb dL_law_384 (by decide) ?_
  refine lv_iadd hx hb dL_law_385 ?_
  refine lv_topi (fun z_1 ez_1 => ?_)
  obtain rfl : z_1 = 1 := ez_1.trans (by decide)
  refine va_sld hx hb hX hbl hbA hS (by unfold vp_in; decide) dL_law_386 ?_
  refine W.eq (g2 := F0 m 387 ls [.int (xs 1), .ref x0]) rfl ?_
  refine go_V (wr := [(m0, .inr (10, [.int 0, .int 0, .int 0, .int 0, .ref (md 4), .ref (md 5), .ref (md 6), .ref (md 7), .ref (md 8), .ref (md 9), .ref (md 10), .ref (md 11), .int 0, .ref (md 13), .ref (md 14), .ref (md 15), .ref (md 16), .ref (md 17), .ref (md 18), .ref (md 19), .int 0, .int 0, .int 0, .int 0, .int (-1), .int 0, .ref (md 26), .ref (md 27), .ref (md 28), .ref (md 29), .ref (md 30), .ref (md 31), .ref (md 32), .ref (md 33), .ref (md 34), .ref (md 35), .int 0, .int 0, .int 0, .int 0, .int 0, .int 0, .int 0, .int 0, .int (-1), .int 0, .int 0, .ref (md 47), .ref (md 48), .ref (md 49), .ref (md 50)])), ((md 13), .inl ((mq 13), 30, .inl (fun _ => 0))), (ou, .inl (co, 1, .inr (.inl (fun _ => 0))))]) ⟨hx, hb, hml, hown, hts⟩ (c_X9_cloth l dC dI sa hlt _ x0 ad ca (xs 1) ) (cwV 1 hts gL_law_X9_cloth rfl rfl rfl (by decide +kernel) ⟨Nat.le_of_ble_eq_true rfl, Nat.le_of_ble_eq_true rfl⟩) hP hD hK hS hA hev [0, 1] [2, 3, 4] [0] rfl rfl rfl rfl (by decide) rfl 0 9 rfl rfl rfl rfl hl.1 rfl (Nat.le_of_ble_eq_true rfl) dL_law_387 ⟨Nat.le_of_ble_eq_true rfl, Nat.le_of_ble_eq_true rfl⟩ (fun r u H locs hw hP hD hK hS => ?_)
  obtain ⟨x_2, rfl⟩ : ∃ z, z = u := ⟨_, rfl⟩
  have hw : r = some (.int x_2) ∧ (E_cloth (xs 1) = x_2) := hw
  obtain ⟨rfl, hw_3⟩ := hw
  have hP : va_P (dC, dI) vwCl [(m0, .inr (10, [.int 0, .int 0, .int 0, .int 0, .ref (md 4), .ref (md 5), .ref (md 6), .ref (md 7), .ref (md 8), .ref (md 9), .ref (md 10), .ref (md 11), .int 0, .ref (md 13), .ref (md 14), .ref (md 15), .ref (md 16), .ref (md 17), .ref (md 18), .ref (md 19), .int 0, .int 0, .int 0, .int 0, .int (-1), .int 0, .ref (md 26), .ref (md 27), .ref (md 28), .ref (md 29), .ref (md 30), .ref (md 31), .ref (md 32), .ref (md 33), .ref (md 34), .ref (md 35), .int 0, .int 0, .int 0, .int 0, .int 0, .int 0, .int 0, .int 0, .int (-1), .int 0, .int 0, .ref (md 47), .ref (md 48), .ref (md 49), .ref (md 50)])), ((md 13), .inl ((mq 13), 30, .inl (fun _ => 0))), (ou, .inl (co, 1, .inr (.inl (fun _ => 0))))] _ := hP
  have hD : va_D _ [(m0, .inr (10, [.int 0, .int 0, .int 0, .int 0, .ref (md 4), .ref (md 5), .ref (md 6), .ref (md 7), .ref (md 8), .ref (md 9), .ref (md 10), .ref (md 11), .int 0, .ref (md 13), .ref (md 14), .ref (md 15), .ref (md 16), .ref (md 17), .ref (md 18), .ref (md 19), .int 0, .int 0, .int 0, .int 0, .int (-1), .int 0, .ref (md 26), .ref (md 27), .ref (md 28), .ref (md 29), .ref (md 30), .ref (md 31), .ref (md 32), .ref (md 33), .ref (md 34), .ref (md 35), .int 0, .int 0, .int 0, .int 0, .int 0, .int 0, .int 0, .int 0, .int (-1), .int 0, .int 0, .ref (md 47), .ref (md 48), .ref (md 49), .ref (md 50)])), ((md 13), .inl ((mq 13), 30, .inl (fun _ => 0))), (ou, .inl (co, 1, .inr (.inl (fun _ => 0))))] := hD
  have hK : va_K (dC, dI) vwCl [((ca 8), .object "VatHouse$Cloth"), ((mq 13), .int), (co, .long)] s := hK
  refine W.eq (g2 := F0 m 390 ls [.int x_2]) rfl ?_
  refine lv_aload_n hx hb dL_law_390 rfl (lv_at hl 2 rfl) ?_
  refine lv_aload_n hx hb dL_law_391 rfl (lv_at hl 4 rfl) ?_
  refine lv_iload hx hb dL_law_392 (lv_at hl 0 rfl) ?_
  refine lv_iconst (v := 1) hx hb dL_law_394 (by decide) ?_
  refine lv_iadd hx hb dL_law_395 ?_
  refine lv_topi (fun z_4 ez_4 => ?_)
  obtain rfl : z_4 = 1 := ez_4.trans (by decide)
  refine va_sld hx hb hX hbl hbA hS (by unfold vp_in; decide) dL_law_396 ?_
  refine W.eq (g2 := F0 m 397 ls [.int (xs 1), .ref m0, .int x_2]) rfl ?_
  refine go_V (wr := [(ou, .inl (co, 1, .inr (.inl (fun _ => 0))))]) ⟨hx, hb, hml, hown, hts⟩ (c_X10_cloth l dC dI sa hlt _ m0 md mq (xs 1) ) (cwV 1 hts gL_law_X10_cloth rfl rfl rfl (by decide +kernel) ⟨Nat.le_of_ble_eq_true rfl, Nat.le_of_ble_eq_true rfl⟩) hP hD hK hS hA hev [0, 1] [2] [1] rfl rfl rfl rfl (by decide) rfl 0 10 rfl rfl rfl rfl hl.1 rfl (Nat.le_of_ble_eq_true rfl) dL_law_397 ⟨Nat.le_of_ble_eq_true rfl, Nat.le_of_ble_eq_true rfl⟩ (fun r u H locs hw hP hD hK hS => ?_)
  obtain ⟨x_5, J_6⟩ := u
  have hw : r = some (.int x_5) ∧ (E_cloth (xs 1) = x_5) := hw
  obtain ⟨rfl, hw_7⟩ := hw
  have hP : va_P (dC, dI) vwCl [(ou, .inl (co, 1, .inr (.inl (fun _ => 0)))), (m0, .inr (10, [.int (J_6 0), .int (J_6 1), .int (J_6 2), .int (J_6 3), .ref (md 4), .ref (md 5), .ref (md 6), .ref (md 7), .ref (md 8), .ref (md 9), .ref (md 10), .ref (md 11), .int (J_6 12), .ref (md 13), .ref (md 14), .ref (md 15), .ref (md 16), .ref (md 17), .ref (md 18), .ref (md 19), .int (J_6 20), .int (J_6 21), .int (J_6 22), .int (J_6 23), .int (J_6 24), .int (J_6 25), .ref (md 26), .ref (md 27), .ref (md 28), .ref (md 29), .ref (md 30), .ref (md 31), .ref (md 32), .ref (md 33), .ref (md 34), .ref (md 35), .int (J_6 36), .int (J_6 37), .int (J_6 38), .int (J_6 39), .int (J_6 40), .int (J_6 41), .int (J_6 42), .int (J_6 43), .int (J_6 44), .int (J_6 45), .int (J_6 46), .ref (md 47), .ref (md 48), .ref (md 49), .ref (md 50)]))] _ := hP
  have hD : va_D _ [(ou, .inl (co, 1, .inr (.inl (fun _ => 0)))), (m0, .inr (10, [.int (J_6 0), .int (J_6 1), .int (J_6 2), .int (J_6 3), .ref (md 4), .ref (md 5), .ref (md 6), .ref (md 7), .ref (md 8), .ref (md 9), .ref (md 10), .ref (md 11), .int (J_6 12), .ref (md 13), .ref (md 14), .ref (md 15), .ref (md 16), .ref (md 17), .ref (md 18), .ref (md 19), .int (J_6 20), .int (J_6 21), .int (J_6 22), .int (J_6 23), .int (J_6 24), .int (J_6 25), .ref (md 26), .ref (md 27), .ref (md 28), .ref (md 29), .ref (md 30), .ref (md 31), .ref (md 32), .ref (md 33), .ref (md 34), .ref (md 35), .int (J_6 36), .int (J_6 37), .int (J_6 38), .int (J_6 39), .int (J_6 40), .int (J_6 41), .int (J_6 42), .int (J_6 43), .int (J_6 44), .int (J_6 45), .int (J_6 46), .ref (md 47), .ref (md 48), .ref (md 49), .ref (md 50)]))] := hD
  have hK : va_K (dC, dI) vwCl [((ca 8), .object "VatHouse$Cloth"), ((mq 13), .int), (co, .long)] s := hK
  refine W.eq (g2 := F0 m 400 ls [.int x_5, .int x_2]) rfl ?_
  have hk9 := hw_3.symm.trans hw_7
  refine lv_icmp_eq (tgt := 1386) hx hb dL_law_400 (by decide) (fun c_8 => ?_) (fun c_8 => ?_)
  rotate_left
  · exact absurd c_8 (fun h => h hk9)
  exact law_end (dC := dC) (dI := dI) hlt C0 hev hS (Nat.le_of_ble_eq_true rfl) (Nat.le_of_ble_eq_true rfl) (lv_sub hl [0, 4] rfl)

set_option maxHeartbeats 4000000 in
set_option maxRecDepth 100000 in
theorem law_dip {p : Program} {l : Launch} {e : Env} {s : State} {m : MethodId} {below : List Frame} {meth : Method} {c : Code} {b : Nat} {xs : Nat → Int32} (hlt : l.stackTraces = false) (C0 : lw_At p s m meth c b 6 xs) {dC : Nat → ClassId} {dI : Nat → Nat → Nat} {sa : Nat → Nat} (hev : ev sa (fun q : Nat => s.heap.size ≤ q) s s.heap) {H : Heap} {locs : List Loc} {ls : Array Slot} {x0 m0 ou : Nat} {co : ClassId} {ad : Nat → Nat} {md : Nat → Nat} (hK : va_K (dC, dI) vwCl [(co, .long)] s) (hP : va_P (dC, dI) vwCl [(x0, .inr (9, [.ref (ad 0), .ref (ad 8), .int 0, .int 0, .ref (ad 9), .int 0, .ref (ad 10), .ref (ad 15), .int 0, .ref (ad 16), .ref (ad 17)])), (m0, .inr (10, [.int 0, .int 0, .int 0, .int 0, .ref (md 4), .ref (md 5), .ref (md 6), .ref (md 7), .ref (md 8), .ref (md 9), .ref (md 10), .ref (md 11), .int 0, .ref (md 13), .ref (md 14), .ref (md 15), .ref (md 16), .ref (md 17), .ref (md 18), .ref (md 19), .int 0, .int 0, .int 0, .int 0, .int (-1), .int 0, .ref (md 26), .ref (md 27), .ref (md 28), .ref (md 29), .ref (md 30), .ref (md 31), .ref (md 32), .ref (md 33), .ref (md 34), .ref (md 35), .int 0, .int 0, .int 0, .int 0, .int 0, .int 0, .int 0, .int 0, .int (-1), .int 0, .int 0, .ref (md 47), .ref (md 48), .ref (md 49), .ref (md 50)])), (ou, .inl (co, 1, .inr (.inl (fun _ => 0))))] H) (hD : va_D (fun q : Nat => s.heap.size ≤ q) [(x0, .inr (9, [.ref (ad 0), .ref (ad 8), .int 0, .int 0, .ref (ad 9), .int 0, .ref (ad 10), .ref (ad 15), .int 0, .ref (ad 16), .ref (ad 17)])), (m0, .inr (10, [.int 0, .int 0, .int 0, .int 0, .ref (md 4), .ref (md 5), .ref (md 6), .ref (md 7), .ref (md 8), .ref (md 9), .ref (md 10), .ref (md 11), .int 0, .ref (md 13), .ref (md 14), .ref (md 15), .ref (md 16), .ref (md 17), .ref (md 18), .ref (md 19), .int 0, .int 0, .int 0, .int 0, .int (-1), .int 0, .ref (md 26), .ref (md 27), .ref (md 28), .ref (md 29), .ref (md 30), .ref (md 31), .ref (md 32), .ref (md 33), .ref (md 34), .ref (md 35), .int 0, .int 0, .int 0, .int 0, .int 0, .int 0, .int 0, .int 0, .int (-1), .int 0, .int 0, .ref (md 47), .ref (md 48), .ref (md 49), .ref (md 50)])), (ou, .inl (co, 1, .inr (.inl (fun _ => 0))))]) (hS : va_S (fun q : Nat => s.heap.size ≤ q) s.heap H locs) (hl : lv_has ls 7 [(4, .int 0), (3, .ref ou), (2, .ref m0), (1, .ref x0), (0, .ref b)]) : W p l e room_1 s m #[Value.ref b] below meth c H locs 61 29719 (lw_Z below #[Value.ref b] s) (F0 m 405 ls []) := by
  obtain ⟨hx, hb, hr, hml, hown, hts, hX, hbl, hlocks, hgv⟩ := id C0
  have hown : s.vm.findClass RL = some m.cls := hown
  have hA : ∀ q : Nat, s.heap.size ≤ q → (fun q : Nat => s.heap.size ≤ q) q := fun _ h => h
  have hbA : ¬ (fun q : Nat => s.heap.size ≤ q) b := Nat.not_le.mpr hbl
  refine lv_aload_n hx hb dL_law_405 rfl (lv_at hl 3 rfl) ?_
  refine lv_aload_n hx hb dL_law_406 rfl (lv_at hl 4 rfl) ?_
  refine lv_iload hx hb dL_law_407 (lv_at hl 0 rfl) ?_
  refine lv_iconst (v := 1) hx hb dL_law_409 (by decide) ?_
  refine lv_iadd hx hb dL_law_410 ?_
  refine lv_topi (fun z_1 ez_1 => ?_)
  obtain rfl : z_1 = 1 := ez_1.trans (by decide)
  refine va_sld hx hb hX hbl hbA hS (by unfold vp_in; decide) dL_law_411 ?_
  refine W.eq (g2 := F0 m 412 ls [.int (xs 1), .ref x0]) rfl ?_
  refine lv_aload_n hx hb dL_law_412 rfl (lv_at hl 4 rfl) ?_
  refine lv_iload hx hb dL_law_413 (lv_at hl 0 rfl) ?_
  refine lv_iconst (v := 2) hx hb dL_law_415 (by decide) ?_
  refine lv_iadd hx hb dL_law_416 ?_
  refine lv_topi (fun z_2 ez_2 => ?_)
  obtain rfl : z_2 = 2 := ez_2.trans (by decide)
  refine va_sld hx hb hX hbl hbA hS (by unfold vp_in; decide) dL_law_417 ?_
  refine W.eq (g2 := F0 m 418 ls [.int (xs 2), .int (xs 1), .ref x0]) rfl ?_
  refine lv_aload_n hx hb dL_law_418 rfl (lv_at hl 4 rfl) ?_
  refine lv_iload hx hb dL_law_419 (lv_at hl 0 rfl) ?_
  refine lv_iconst (v := 3) hx hb dL_law_421 (by decide) ?_
  refine lv_iadd hx hb dL_law_422 ?_
  refine lv_topi (fun z_3 ez_3 => ?_)
  obtain rfl : z_3 = 3 := ez_3.trans (by decide)
  refine va_sld hx hb hX hbl hbA hS (by unfold vp_in; decide) dL_law_423 ?_
  refine W.eq (g2 := F0 m 424 ls [.int (xs 3), .int (xs 2), .int (xs 1), .ref x0]) rfl ?_
  refine lv_aload_n hx hb dL_law_424 rfl (lv_at hl 1 rfl) ?_
  refine go_SW (wr := [(m0, .inr (10, [.int 0, .int 0, .int 0, .int 0, .ref (md 4), .ref (md 5), .ref (md 6), .ref (md 7), .ref (md 8), .ref (md 9), .ref (md 10), .ref (md 11), .int 0, .ref (md 13), .ref (md 14), .ref (md 15), .ref (md 16), .ref (md 17), .ref (md 18), .ref (md 19), .int 0, .int 0, .int 0, .int 0, .int (-1), .int 0, .ref (md 26), .ref (md 27), .ref (md 28), .ref (md 29), .ref (md 30), .ref (md 31), .ref (md 32), .ref (md 33), .ref (md 34), .ref (md 35), .int 0, .int 0, .int 0, .int 0, .int 0, .int 0, .int 0, .int 0, .int (-1), .int 0, .int 0, .ref (md 47), .ref (md 48), .ref (md 49), .ref (md 50)]))]) ⟨hx, hb, hml, hown, hts⟩ (c_L_dip l dC dI sa hlt _ x0 ad ou co (fun _ => 0) (xs 1) (xs 2) (xs 3) ) (vx_cwSW 5 hts gL_law_L_dip rfl rfl rfl (by decide +kernel) ⟨Nat.le_of_ble_eq_true rfl, Nat.le_of_ble_eq_true rfl⟩) hP hD hK hS hA hev [0, 2] [1] [0] rfl rfl rfl rfl (by decide) rfl rfl hl.1 rfl (Nat.le_of_ble_eq_true rfl) dL_law_425 ⟨Nat.le_of_ble_eq_true rfl, Nat.le_of_ble_eq_true rfl⟩ (fun r u H locs hw hP hD hK hS => ?_)
  obtain ⟨k_4, g_5⟩ := u
  have hw : r = some (.int k_4) ∧ (k_4 = 1) := hw
  obtain ⟨rfl, hw_6⟩ := hw
  have hP : va_P (dC, dI) vwCl [(m0, .inr (10, [.int 0, .int 0, .int 0, .int 0, .ref (md 4), .ref (md 5), .ref (md 6), .ref (md 7), .ref (md 8), .ref (md 9), .ref (md 10), .ref (md 11), .int 0, .ref (md 13), .ref (md 14), .ref (md 15), .ref (md 16), .ref (md 17), .ref (md 18), .ref (md 19), .int 0, .int 0, .int 0, .int 0, .int (-1), .int 0, .ref (md 26), .ref (md 27), .ref (md 28), .ref (md 29), .ref (md 30), .ref (md 31), .ref (md 32), .ref (md 33), .ref (md 34), .ref (md 35), .int 0, .int 0, .int 0, .int 0, .int 0, .int 0, .int 0, .int 0, .int (-1), .int 0, .int 0, .ref (md 47), .ref (md 48), .ref (md 49), .ref (md 50)])), (ou, .inl (co, 1, .inr (.inl g_5)))] _ := hP
  have hD : va_D _ [(m0, .inr (10, [.int 0, .int 0, .int 0, .int 0, .ref (md 4), .ref (md 5), .ref (md 6), .ref (md 7), .ref (md 8), .ref (md 9), .ref (md 10), .ref (md 11), .int 0, .ref (md 13), .ref (md 14), .ref (md 15), .ref (md 16), .ref (md 17), .ref (md 18), .ref (md 19), .int 0, .int 0, .int 0, .int 0, .int (-1), .int 0, .ref (md 26), .ref (md 27), .ref (md 28), .ref (md 29), .ref (md 30), .ref (md 31), .ref (md 32), .ref (md 33), .ref (md 34), .ref (md 35), .int 0, .int 0, .int 0, .int 0, .int 0, .int 0, .int 0, .int 0, .int (-1), .int 0, .int 0, .ref (md 47), .ref (md 48), .ref (md 49), .ref (md 50)])), (ou, .inl (co, 1, .inr (.inl g_5)))] := hD
  have hK : va_K (dC, dI) vwCl [(co, .long)] s := hK
  refine W.eq (g2 := F0 m 428 ls [.int k_4]) rfl ?_
  refine lv_istore (lv' := [(5, .int k_4), (4, .int 0), (3, .ref ou), (2, .ref m0), (1, .ref x0), (0, .ref b)]) hx hb dL_law_428 hl (by decide) rfl (fun ls hl => ?_)
  refine lv_aload_n hx hb dL_law_430 rfl (lv_at hl 3 rfl) ?_
  refine lv_aload_n hx hb dL_law_431 rfl (lv_at hl 5 rfl) ?_
  refine lv_iload hx hb dL_law_432 (lv_at hl 1 rfl) ?_
  refine lv_iconst (v := 1) hx hb dL_law_434 (by decide) ?_
  refine lv_iadd hx hb dL_law_435 ?_
  refine lv_topi (fun z_7 ez_7 => ?_)
  obtain rfl : z_7 = 1 := ez_7.trans (by decide)
  refine va_sld hx hb hX hbl hbA hS (by unfold vp_in; decide) dL_law_436 ?_
  refine W.eq (g2 := F0 m 437 ls [.int (xs 1), .ref m0]) rfl ?_
  refine lv_aload_n hx hb dL_law_437 rfl (lv_at hl 5 rfl) ?_
  refine lv_iload hx hb dL_law_438 (lv_at hl 1 rfl) ?_
  refine lv_iconst (v := 2) hx hb dL_law_440 (by decide) ?_
  refine lv_iadd hx hb dL_law_441 ?_
  refine lv_topi (fun z_8 ez_8 => ?_)
  obtain rfl : z_8 = 2 := ez_8.trans (by decide)
  refine va_sld hx hb hX hbl hbA hS (by unfold vp_in; decide) dL_law_442 ?_
  refine W.eq (g2 := F0 m 443 ls [.int (xs 2), .int (xs 1), .ref m0]) rfl ?_
  refine lv_aload_n hx hb dL_law_443 rfl (lv_at hl 5 rfl) ?_
  refine lv_iload hx hb dL_law_444 (lv_at hl 1 rfl) ?_
  refine lv_iconst (v := 3) hx hb dL_law_446 (by decide) ?_
  refine lv_iadd hx hb dL_law_447 ?_
  refine lv_topi (fun z_9 ez_9 => ?_)
  obtain rfl : z_9 = 3 := ez_9.trans (by decide)
  refine va_sld hx hb hX hbl hbA hS (by unfold vp_in; decide) dL_law_448 ?_
  refine W.eq (g2 := F0 m 449 ls [.int (xs 3), .int (xs 2), .int (xs 1), .ref m0]) rfl ?_
  refine go_V (wr := [(ou, .inl (co, 1, .inr (.inl g_5)))]) ⟨hx, hb, hml, hown, hts⟩ (c_X10_dip l dC dI sa hlt _ m0 md (xs 1) (xs 2) (xs 3) ) (cwV 3 hts gL_law_X10_dip rfl rfl rfl (by decide +kernel) ⟨Nat.le_of_ble_eq_true rfl, Nat.le_of_ble_eq_true rfl⟩) hP hD hK hS hA hev [0] [1] [] rfl rfl rfl rfl (by decide) rfl 0 10 rfl rfl rfl rfl hl.1 rfl (Nat.le_of_ble_eq_true rfl) dL_law_449 ⟨Nat.le_of_ble_eq_true rfl, Nat.le_of_ble_eq_true rfl⟩ (fun r u H locs hw hP hD hK hS => ?_)
  obtain ⟨x_10, J_11⟩ := u
  have hw : r = some (.int x_10) ∧ (J_11 0 = 1) := hw
  obtain ⟨rfl, hw_12⟩ := hw
  have hP : va_P (dC, dI) vwCl [(ou, .inl (co, 1, .inr (.inl g_5))), (m0, .inr (10, [.int (J_11 0), .int (J_11 1), .int (J_11 2), .int (J_11 3), .ref (md 4), .ref (md 5), .ref (md 6), .ref (md 7), .ref (md 8), .ref (md 9), .ref (md 10), .ref (md 11), .int (J_11 12), .ref (md 13), .ref (md 14), .ref (md 15), .ref (md 16), .ref (md 17), .ref (md 18), .ref (md 19), .int (J_11 20), .int (J_11 21), .int (J_11 22), .int (J_11 23), .int (J_11 24), .int (J_11 25), .ref (md 26), .ref (md 27), .ref (md 28), .ref (md 29), .ref (md 30), .ref (md 31), .ref (md 32), .ref (md 33), .ref (md 34), .ref (md 35), .int (J_11 36), .int (J_11 37), .int (J_11 38), .int (J_11 39), .int (J_11 40), .int (J_11 41), .int (J_11 42), .int (J_11 43), .int (J_11 44), .int (J_11 45), .int (J_11 46), .ref (md 47), .ref (md 48), .ref (md 49), .ref (md 50)]))] _ := hP
  have hD : va_D _ [(ou, .inl (co, 1, .inr (.inl g_5))), (m0, .inr (10, [.int (J_11 0), .int (J_11 1), .int (J_11 2), .int (J_11 3), .ref (md 4), .ref (md 5), .ref (md 6), .ref (md 7), .ref (md 8), .ref (md 9), .ref (md 10), .ref (md 11), .int (J_11 12), .ref (md 13), .ref (md 14), .ref (md 15), .ref (md 16), .ref (md 17), .ref (md 18), .ref (md 19), .int (J_11 20), .int (J_11 21), .int (J_11 22), .int (J_11 23), .int (J_11 24), .int (J_11 25), .ref (md 26), .ref (md 27), .ref (md 28), .ref (md 29), .ref (md 30), .ref (md 31), .ref (md 32), .ref (md 33), .ref (md 34), .ref (md 35), .int (J_11 36), .int (J_11 37), .int (J_11 38), .int (J_11 39), .int (J_11 40), .int (J_11 41), .int (J_11 42), .int (J_11 43), .int (J_11 44), .int (J_11 45), .int (J_11 46), .ref (md 47), .ref (md 48), .ref (md 49), .ref (md 50)]))] := hD
  have hK : va_K (dC, dI) vwCl [(co, .long)] s := hK
  refine W.eq (g2 := F0 m 452 ls [.int x_10]) rfl ?_
  have hk9 := hw_6.trans hw_12.symm
  refine lv_istore (lv' := [(6, .int x_10), (5, .int k_4), (4, .int 0), (3, .ref ou), (2, .ref m0), (1, .ref x0), (0, .ref b)]) hx hb dL_law_452 hl (by decide) rfl (fun ls hl => ?_)
  refine lv_aload_n hx hb dL_law_454 rfl (lv_at hl 4 rfl) ?_
  refine go_V (wr := [(ou, .inl (co, 1, .inr (.inl g_5)))]) ⟨hx, hb, hml, hown, hts⟩ (c_X10_thrown l dC dI sa hlt _ m0 md J_11 ) (cwV 0 hts gL_law_X10_thrown rfl rfl rfl (by decide +kernel) ⟨Nat.le_of_ble_eq_true rfl, Nat.le_of_ble_eq_true rfl⟩) hP hD hK hS hA hev [1] [0] [] rfl rfl rfl rfl (by decide) rfl 1 10 rfl rfl rfl rfl hl.1 rfl (Nat.le_of_ble_eq_true rfl) dL_law_455 ⟨Nat.le_of_ble_eq_true rfl, Nat.le_of_ble_eq_true rfl⟩ (fun r u H locs hw hP hD hK hS => ?_)
  have hw : r = some (.int (J_11 0)) ∧ (True) := hw
  obtain ⟨rfl, hw_13⟩ := hw
  have hP : va_P (dC, dI) vwCl [(ou, .inl (co, 1, .inr (.inl g_5))), (m0, .inr (10, [.int (J_11 0), .int (J_11 1), .int (J_11 2), .int (J_11 3), .ref (md 4), .ref (md 5), .ref (md 6), .ref (md 7), .ref (md 8), .ref (md 9), .ref (md 10), .ref (md 11), .int (J_11 12), .ref (md 13), .ref (md 14), .ref (md 15), .ref (md 16), .ref (md 17), .ref (md 18), .ref (md 19), .int (J_11 20), .int (J_11 21), .int (J_11 22), .int (J_11 23), .int (J_11 24), .int (J_11 25), .ref (md 26), .ref (md 27), .ref (md 28), .ref (md 29), .ref (md 30), .ref (md 31), .ref (md 32), .ref (md 33), .ref (md 34), .ref (md 35), .int (J_11 36), .int (J_11 37), .int (J_11 38), .int (J_11 39), .int (J_11 40), .int (J_11 41), .int (J_11 42), .int (J_11 43), .int (J_11 44), .int (J_11 45), .int (J_11 46), .ref (md 47), .ref (md 48), .ref (md 49), .ref (md 50)]))] _ := hP
  have hD : va_D _ [(ou, .inl (co, 1, .inr (.inl g_5))), (m0, .inr (10, [.int (J_11 0), .int (J_11 1), .int (J_11 2), .int (J_11 3), .ref (md 4), .ref (md 5), .ref (md 6), .ref (md 7), .ref (md 8), .ref (md 9), .ref (md 10), .ref (md 11), .int (J_11 12), .ref (md 13), .ref (md 14), .ref (md 15), .ref (md 16), .ref (md 17), .ref (md 18), .ref (md 19), .int (J_11 20), .int (J_11 21), .int (J_11 22), .int (J_11 23), .int (J_11 24), .int (J_11 25), .ref (md 26), .ref (md 27), .ref (md 28), .ref (md 29), .ref (md 30), .ref (md 31), .ref (md 32), .ref (md 33), .ref (md 34), .ref (md 35), .int (J_11 36), .int (J_11 37), .int (J_11 38), .int (J_11 39), .int (J_11 40), .int (J_11 41), .int (J_11 42), .int (J_11 43), .int (J_11 44), .int (J_11 45), .int (J_11 46), .ref (md 47), .ref (md 48), .ref (md 49), .ref (md 50)]))] := hD
  have hK : va_K (dC, dI) vwCl [(co, .long)] s := hK
  refine W.eq (g2 := F0 m 458 ls [.int (J_11 0)]) rfl ?_
  refine lv_iload hx hb dL_law_458 (lv_at hl 1 rfl) ?_
  refine lv_icmp_eq (tgt := 465) hx hb dL_law_460 (by decide) (fun c_14 => ?_) (fun c_14 => ?_)
  rotate_left
  · exact absurd c_14 (fun h => h hk9.symm)
  refine lv_iload hx hb dL_law_465 (lv_at hl 1 rfl) ?_
  refine lv_if_ne (tgt := 482) hx hb dL_law_467 (by decide) (fun c_15 => ?_) (fun c_15 => ?_)
  rotate_left
  · exact absurd c_15 (by rw [hw_6]; decide)
  refine lv_goto (tgt := 1386) hx hb dL_law_482 (by decide) ?_
  exact law_end (dC := dC) (dI := dI) hlt C0 hev hS (Nat.le_of_ble_eq_true rfl) (Nat.le_of_ble_eq_true rfl) (lv_sub hl [2, 6] rfl)

set_option maxHeartbeats 4000000 in
set_option maxRecDepth 100000 in
theorem law_treat {p : Program} {l : Launch} {e : Env} {s : State} {m : MethodId} {below : List Frame} {meth : Method} {c : Code} {b : Nat} {xs : Nat → Int32} (hlt : l.stackTraces = false) (C0 : lw_At p s m meth c b 6 xs) {dC : Nat → ClassId} {dI : Nat → Nat → Nat} {sa : Nat → Nat} (hev : ev sa (fun q : Nat => s.heap.size ≤ q) s s.heap) {H : Heap} {locs : List Loc} {ls : Array Slot} {x0 m0 ou : Nat} {co : ClassId} {ad : Nat → Nat} {md : Nat → Nat} (hK : va_K (dC, dI) vwCl [(co, .long)] s) (hP : va_P (dC, dI) vwCl [(x0, .inr (9, [.ref (ad 0), .ref (ad 8), .int 0, .int 0, .ref (ad 9), .int 0, .ref (ad 10), .ref (ad 15), .int 0, .ref (ad 16), .ref (ad 17)])), (m0, .inr (10, [.int 0, .int 0, .int 0, .int 0, .ref (md 4), .ref (md 5), .ref (md 6), .ref (md 7), .ref (md 8), .ref (md 9), .ref (md 10), .ref (md 11), .int 0, .ref (md 13), .ref (md 14), .ref (md 15), .ref (md 16), .ref (md 17), .ref (md 18), .ref (md 19), .int 0, .int 0, .int 0, .int 0, .int (-1), .int 0, .ref (md 26), .ref (md 27), .ref (md 28), .ref (md 29), .ref (md 30), .ref (md 31), .ref (md 32), .ref (md 33), .ref (md 34), .ref (md 35), .int 0, .int 0, .int 0, .int 0, .int 0, .int 0, .int 0, .int 0, .int (-1), .int 0, .int 0, .ref (md 47), .ref (md 48), .ref (md 49), .ref (md 50)])), (ou, .inl (co, 1, .inr (.inl (fun _ => 0))))] H) (hD : va_D (fun q : Nat => s.heap.size ≤ q) [(x0, .inr (9, [.ref (ad 0), .ref (ad 8), .int 0, .int 0, .ref (ad 9), .int 0, .ref (ad 10), .ref (ad 15), .int 0, .ref (ad 16), .ref (ad 17)])), (m0, .inr (10, [.int 0, .int 0, .int 0, .int 0, .ref (md 4), .ref (md 5), .ref (md 6), .ref (md 7), .ref (md 8), .ref (md 9), .ref (md 10), .ref (md 11), .int 0, .ref (md 13), .ref (md 14), .ref (md 15), .ref (md 16), .ref (md 17), .ref (md 18), .ref (md 19), .int 0, .int 0, .int 0, .int 0, .int (-1), .int 0, .ref (md 26), .ref (md 27), .ref (md 28), .ref (md 29), .ref (md 30), .ref (md 31), .ref (md 32), .ref (md 33), .ref (md 34), .ref (md 35), .int 0, .int 0, .int 0, .int 0, .int 0, .int 0, .int 0, .int 0, .int (-1), .int 0, .int 0, .ref (md 47), .ref (md 48), .ref (md 49), .ref (md 50)])), (ou, .inl (co, 1, .inr (.inl (fun _ => 0))))]) (hS : va_S (fun q : Nat => s.heap.size ≤ q) s.heap H locs) (hl : lv_has ls 7 [(4, .int 0), (3, .ref ou), (2, .ref m0), (1, .ref x0), (0, .ref b)]) : W p l e room_1 s m #[Value.ref b] below meth c H locs 61 29719 (lw_Z below #[Value.ref b] s) (F0 m 485 ls []) := by
  obtain ⟨hx, hb, hr, hml, hown, hts, hX, hbl, hlocks, hgv⟩ := id C0
  have hown : s.vm.findClass RL = some m.cls := hown
  have hA : ∀ q : Nat, s.heap.size ≤ q → (fun q : Nat => s.heap.size ≤ q) q := fun _ h => h
  have hbA : ¬ (fun q : Nat => s.heap.size ≤ q) b := Nat.not_le.mpr hbl
  refine lv_aload_n hx hb dL_law_485 rfl (lv_at hl 3 rfl) ?_
  refine lv_aload_n hx hb dL_law_486 rfl (lv_at hl 4 rfl) ?_
  refine lv_iload hx hb dL_law_487 (lv_at hl 0 rfl) ?_
  refine lv_iconst (v := 1) hx hb dL_law_489 (by decide) ?_
  refine lv_iadd hx hb dL_law_490 ?_
  refine lv_topi (fun z_1 ez_1 => ?_)
  obtain rfl : z_1 = 1 := ez_1.trans (by decide)
  refine va_sld hx hb hX hbl hbA hS (by unfold vp_in; decide) dL_law_491 ?_
  refine W.eq (g2 := F0 m 492 ls [.int (xs 1), .ref x0]) rfl ?_
  refine lv_aload_n hx hb dL_law_492 rfl (lv_at hl 4 rfl) ?_
  refine lv_iload hx hb dL_law_493 (lv_at hl 0 rfl) ?_
  refine lv_iconst (v := 2) hx hb dL_law_495 (by decide) ?_
  refine lv_iadd hx hb dL_law_496 ?_
  refine lv_topi (fun z_2 ez_2 => ?_)
  obtain rfl : z_2 = 2 := ez_2.trans (by decide)
  refine va_sld hx hb hX hbl hbA hS (by unfold vp_in; decide) dL_law_497 ?_
  refine W.eq (g2 := F0 m 498 ls [.int (xs 2), .int (xs 1), .ref x0]) rfl ?_
  refine lv_aload_n hx hb dL_law_498 rfl (lv_at hl 1 rfl) ?_
  refine go_SW (wr := [(m0, .inr (10, [.int 0, .int 0, .int 0, .int 0, .ref (md 4), .ref (md 5), .ref (md 6), .ref (md 7), .ref (md 8), .ref (md 9), .ref (md 10), .ref (md 11), .int 0, .ref (md 13), .ref (md 14), .ref (md 15), .ref (md 16), .ref (md 17), .ref (md 18), .ref (md 19), .int 0, .int 0, .int 0, .int 0, .int (-1), .int 0, .ref (md 26), .ref (md 27), .ref (md 28), .ref (md 29), .ref (md 30), .ref (md 31), .ref (md 32), .ref (md 33), .ref (md 34), .ref (md 35), .int 0, .int 0, .int 0, .int 0, .int 0, .int 0, .int 0, .int 0, .int (-1), .int 0, .int 0, .ref (md 47), .ref (md 48), .ref (md 49), .ref (md 50)]))]) ⟨hx, hb, hml, hown, hts⟩ (c_L_treat l dC dI sa hlt _ x0 ad ou co (fun _ => 0) (xs 1) (xs 2) ) (vx_cwSW 4 hts gL_law_L_treat rfl rfl rfl (by decide +kernel) ⟨Nat.le_of_ble_eq_true rfl, Nat.le_of_ble_eq_true rfl⟩) hP hD hK hS hA hev [0, 2] [1] [0] rfl rfl rfl rfl (by decide) rfl rfl hl.1 rfl (Nat.le_of_ble_eq_true rfl) dL_law_499 ⟨Nat.le_of_ble_eq_true rfl, Nat.le_of_ble_eq_true rfl⟩ (fun r u H locs hw hP hD hK hS => ?_)
  obtain ⟨k_3, g_4⟩ := u
  have hw : r = some (.int k_3) ∧ (k_3 = 1) := hw
  obtain ⟨rfl, hw_5⟩ := hw
  have hP : va_P (dC, dI) vwCl [(m0, .inr (10, [.int 0, .int 0, .int 0, .int 0, .ref (md 4), .ref (md 5), .ref (md 6), .ref (md 7), .ref (md 8), .ref (md 9), .ref (md 10), .ref (md 11), .int 0, .ref (md 13), .ref (md 14), .ref (md 15), .ref (md 16), .ref (md 17), .ref (md 18), .ref (md 19), .int 0, .int 0, .int 0, .int 0, .int (-1), .int 0, .ref (md 26), .ref (md 27), .ref (md 28), .ref (md 29), .ref (md 30), .ref (md 31), .ref (md 32), .ref (md 33), .ref (md 34), .ref (md 35), .int 0, .int 0, .int 0, .int 0, .int 0, .int 0, .int 0, .int 0, .int (-1), .int 0, .int 0, .ref (md 47), .ref (md 48), .ref (md 49), .ref (md 50)])), (ou, .inl (co, 1, .inr (.inl g_4)))] _ := hP
  have hD : va_D _ [(m0, .inr (10, [.int 0, .int 0, .int 0, .int 0, .ref (md 4), .ref (md 5), .ref (md 6), .ref (md 7), .ref (md 8), .ref (md 9), .ref (md 10), .ref (md 11), .int 0, .ref (md 13), .ref (md 14), .ref (md 15), .ref (md 16), .ref (md 17), .ref (md 18), .ref (md 19), .int 0, .int 0, .int 0, .int 0, .int (-1), .int 0, .ref (md 26), .ref (md 27), .ref (md 28), .ref (md 29), .ref (md 30), .ref (md 31), .ref (md 32), .ref (md 33), .ref (md 34), .ref (md 35), .int 0, .int 0, .int 0, .int 0, .int 0, .int 0, .int 0, .int 0, .int (-1), .int 0, .int 0, .ref (md 47), .ref (md 48), .ref (md 49), .ref (md 50)])), (ou, .inl (co, 1, .inr (.inl g_4)))] := hD
  have hK : va_K (dC, dI) vwCl [(co, .long)] s := hK
  refine W.eq (g2 := F0 m 502 ls [.int k_3]) rfl ?_
  refine lv_istore (lv' := [(5, .int k_3), (4, .int 0), (3, .ref ou), (2, .ref m0), (1, .ref x0), (0, .ref b)]) hx hb dL_law_502 hl (by decide) rfl (fun ls hl => ?_)
  refine lv_aload_n hx hb dL_law_504 rfl (lv_at hl 3 rfl) ?_
  refine lv_aload_n hx hb dL_law_505 rfl (lv_at hl 5 rfl) ?_
  refine lv_iload hx hb dL_law_506 (lv_at hl 1 rfl) ?_
  refine lv_iconst (v := 1) hx hb dL_law_508 (by decide) ?_
  refine lv_iadd hx hb dL_law_509 ?_
  refine lv_topi (fun z_6 ez_6 => ?_)
  obtain rfl : z_6 = 1 := ez_6.trans (by decide)
  refine va_sld hx hb hX hbl hbA hS (by unfold vp_in; decide) dL_law_510 ?_
  refine W.eq (g2 := F0 m 511 ls [.int (xs 1), .ref m0]) rfl ?_
  refine lv_aload_n hx hb dL_law_511 rfl (lv_at hl 5 rfl) ?_
  refine lv_iload hx hb dL_law_512 (lv_at hl 1 rfl) ?_
  refine lv_iconst (v := 2) hx hb dL_law_514 (by decide) ?_
  refine lv_iadd hx hb dL_law_515 ?_
  refine lv_topi (fun z_7 ez_7 => ?_)
  obtain rfl : z_7 = 2 := ez_7.trans (by decide)
  refine va_sld hx hb hX hbl hbA hS (by unfold vp_in; decide) dL_law_516 ?_
  refine W.eq (g2 := F0 m 517 ls [.int (xs 2), .int (xs 1), .ref m0]) rfl ?_
  refine go_V (wr := [(ou, .inl (co, 1, .inr (.inl g_4)))]) ⟨hx, hb, hml, hown, hts⟩ (c_X10_treat l dC dI sa hlt _ m0 md (xs 1) (xs 2) ) (cwV 2 hts gL_law_X10_treat rfl rfl rfl (by decide +kernel) ⟨Nat.le_of_ble_eq_true rfl, Nat.le_of_ble_eq_true rfl⟩) hP hD hK hS hA hev [0] [1] [] rfl rfl rfl rfl (by decide) rfl 0 10 rfl rfl rfl rfl hl.1 rfl (Nat.le_of_ble_eq_true rfl) dL_law_517 ⟨Nat.le_of_ble_eq_true rfl, Nat.le_of_ble_eq_true rfl⟩ (fun r u H locs hw hP hD hK hS => ?_)
  obtain ⟨x_8, J_9⟩ := u
  have hw : r = some (.int x_8) ∧ (J_9 0 = 1) := hw
  obtain ⟨rfl, hw_10⟩ := hw
  have hP : va_P (dC, dI) vwCl [(ou, .inl (co, 1, .inr (.inl g_4))), (m0, .inr (10, [.int (J_9 0), .int (J_9 1), .int (J_9 2), .int (J_9 3), .ref (md 4), .ref (md 5), .ref (md 6), .ref (md 7), .ref (md 8), .ref (md 9), .ref (md 10), .ref (md 11), .int (J_9 12), .ref (md 13), .ref (md 14), .ref (md 15), .ref (md 16), .ref (md 17), .ref (md 18), .ref (md 19), .int (J_9 20), .int (J_9 21), .int (J_9 22), .int (J_9 23), .int (J_9 24), .int (J_9 25), .ref (md 26), .ref (md 27), .ref (md 28), .ref (md 29), .ref (md 30), .ref (md 31), .ref (md 32), .ref (md 33), .ref (md 34), .ref (md 35), .int (J_9 36), .int (J_9 37), .int (J_9 38), .int (J_9 39), .int (J_9 40), .int (J_9 41), .int (J_9 42), .int (J_9 43), .int (J_9 44), .int (J_9 45), .int (J_9 46), .ref (md 47), .ref (md 48), .ref (md 49), .ref (md 50)]))] _ := hP
  have hD : va_D _ [(ou, .inl (co, 1, .inr (.inl g_4))), (m0, .inr (10, [.int (J_9 0), .int (J_9 1), .int (J_9 2), .int (J_9 3), .ref (md 4), .ref (md 5), .ref (md 6), .ref (md 7), .ref (md 8), .ref (md 9), .ref (md 10), .ref (md 11), .int (J_9 12), .ref (md 13), .ref (md 14), .ref (md 15), .ref (md 16), .ref (md 17), .ref (md 18), .ref (md 19), .int (J_9 20), .int (J_9 21), .int (J_9 22), .int (J_9 23), .int (J_9 24), .int (J_9 25), .ref (md 26), .ref (md 27), .ref (md 28), .ref (md 29), .ref (md 30), .ref (md 31), .ref (md 32), .ref (md 33), .ref (md 34), .ref (md 35), .int (J_9 36), .int (J_9 37), .int (J_9 38), .int (J_9 39), .int (J_9 40), .int (J_9 41), .int (J_9 42), .int (J_9 43), .int (J_9 44), .int (J_9 45), .int (J_9 46), .ref (md 47), .ref (md 48), .ref (md 49), .ref (md 50)]))] := hD
  have hK : va_K (dC, dI) vwCl [(co, .long)] s := hK
  refine W.eq (g2 := F0 m 520 ls [.int x_8]) rfl ?_
  have hk9 := hw_5.trans hw_10.symm
  refine lv_istore (lv' := [(6, .int x_8), (5, .int k_3), (4, .int 0), (3, .ref ou), (2, .ref m0), (1, .ref x0), (0, .ref b)]) hx hb dL_law_520 hl (by decide) rfl (fun ls hl => ?_)
  refine lv_aload_n hx hb dL_law_522 rfl (lv_at hl 4 rfl) ?_
  refine go_V (wr := [(ou, .inl (co, 1, .inr (.inl g_4)))]) ⟨hx, hb, hml, hown, hts⟩ (c_X10_thrown l dC dI sa hlt _ m0 md J_9 ) (cwV 0 hts gL_law_X10_thrown rfl rfl rfl (by decide +kernel) ⟨Nat.le_of_ble_eq_true rfl, Nat.le_of_ble_eq_true rfl⟩) hP hD hK hS hA hev [1] [0] [] rfl rfl rfl rfl (by decide) rfl 1 10 rfl rfl rfl rfl hl.1 rfl (Nat.le_of_ble_eq_true rfl) dL_law_523 ⟨Nat.le_of_ble_eq_true rfl, Nat.le_of_ble_eq_true rfl⟩ (fun r u H locs hw hP hD hK hS => ?_)
  have hw : r = some (.int (J_9 0)) ∧ (True) := hw
  obtain ⟨rfl, hw_11⟩ := hw
  have hP : va_P (dC, dI) vwCl [(ou, .inl (co, 1, .inr (.inl g_4))), (m0, .inr (10, [.int (J_9 0), .int (J_9 1), .int (J_9 2), .int (J_9 3), .ref (md 4), .ref (md 5), .ref (md 6), .ref (md 7), .ref (md 8), .ref (md 9), .ref (md 10), .ref (md 11), .int (J_9 12), .ref (md 13), .ref (md 14), .ref (md 15), .ref (md 16), .ref (md 17), .ref (md 18), .ref (md 19), .int (J_9 20), .int (J_9 21), .int (J_9 22), .int (J_9 23), .int (J_9 24), .int (J_9 25), .ref (md 26), .ref (md 27), .ref (md 28), .ref (md 29), .ref (md 30), .ref (md 31), .ref (md 32), .ref (md 33), .ref (md 34), .ref (md 35), .int (J_9 36), .int (J_9 37), .int (J_9 38), .int (J_9 39), .int (J_9 40), .int (J_9 41), .int (J_9 42), .int (J_9 43), .int (J_9 44), .int (J_9 45), .int (J_9 46), .ref (md 47), .ref (md 48), .ref (md 49), .ref (md 50)]))] _ := hP
  have hD : va_D _ [(ou, .inl (co, 1, .inr (.inl g_4))), (m0, .inr (10, [.int (J_9 0), .int (J_9 1), .int (J_9 2), .int (J_9 3), .ref (md 4), .ref (md 5), .ref (md 6), .ref (md 7), .ref (md 8), .ref (md 9), .ref (md 10), .ref (md 11), .int (J_9 12), .ref (md 13), .ref (md 14), .ref (md 15), .ref (md 16), .ref (md 17), .ref (md 18), .ref (md 19), .int (J_9 20), .int (J_9 21), .int (J_9 22), .int (J_9 23), .int (J_9 24), .int (J_9 25), .ref (md 26), .ref (md 27), .ref (md 28), .ref (md 29), .ref (md 30), .ref (md 31), .ref (md 32), .ref (md 33), .ref (md 34), .ref (md 35), .int (J_9 36), .int (J_9 37), .int (J_9 38), .int (J_9 39), .int (J_9 40), .int (J_9 41), .int (J_9 42), .int (J_9 43), .int (J_9 44), .int (J_9 45), .int (J_9 46), .ref (md 47), .ref (md 48), .ref (md 49), .ref (md 50)]))] := hD
  have hK : va_K (dC, dI) vwCl [(co, .long)] s := hK
  refine W.eq (g2 := F0 m 526 ls [.int (J_9 0)]) rfl ?_
  refine lv_iload hx hb dL_law_526 (lv_at hl 1 rfl) ?_
  refine lv_icmp_eq (tgt := 533) hx hb dL_law_528 (by decide) (fun c_12 => ?_) (fun c_12 => ?_)
  rotate_left
  · exact absurd c_12 (fun h => h hk9.symm)
  refine lv_iload hx hb dL_law_533 (lv_at hl 1 rfl) ?_
  refine lv_if_ne (tgt := 550) hx hb dL_law_535 (by decide) (fun c_13 => ?_) (fun c_13 => ?_)
  rotate_left
  · exact absurd c_13 (by rw [hw_5]; decide)
  refine lv_goto (tgt := 1386) hx hb dL_law_550 (by decide) ?_
  exact law_end (dC := dC) (dI := dI) hlt C0 hev hS (Nat.le_of_ble_eq_true rfl) (Nat.le_of_ble_eq_true rfl) (lv_sub hl [2, 6] rfl)

set_option maxHeartbeats 4000000 in
set_option maxRecDepth 100000 in
theorem law_put {p : Program} {l : Launch} {e : Env} {s : State} {m : MethodId} {below : List Frame} {meth : Method} {c : Code} {b : Nat} {xs : Nat → Int32} (hlt : l.stackTraces = false) (C0 : lw_At p s m meth c b 6 xs) {dC : Nat → ClassId} {dI : Nat → Nat → Nat} {sa : Nat → Nat} (hev : ev sa (fun q : Nat => s.heap.size ≤ q) s s.heap) {H : Heap} {locs : List Loc} {ls : Array Slot} {x0 m0 ou : Nat} {co : ClassId} {ad : Nat → Nat} {ca : Nat → ClassId} {md : Nat → Nat} {mq : Nat → ClassId} (hK : va_K (dC, dI) vwCl [((ca 9), .byte), ((mq 19), .int), (co, .long)] s) (hP : va_P (dC, dI) vwCl [(x0, .inr (9, [.ref (ad 0), .ref (ad 8), .int 0, .int 0, .ref (ad 9), .int 0, .ref (ad 10), .ref (ad 15), .int 0, .ref (ad 16), .ref (ad 17)])), ((ad 9), .inl ((ca 9), 1500, .inl (fun _ => 0))), (m0, .inr (10, [.int 0, .int 0, .int 0, .int 0, .ref (md 4), .ref (md 5), .ref (md 6), .ref (md 7), .ref (md 8), .ref (md 9), .ref (md 10), .ref (md 11), .int 0, .ref (md 13), .ref (md 14), .ref (md 15), .ref (md 16), .ref (md 17), .ref (md 18), .ref (md 19), .int 0, .int 0, .int 0, .int 0, .int (-1), .int 0, .ref (md 26), .ref (md 27), .ref (md 28), .ref (md 29), .ref (md 30), .ref (md 31), .ref (md 32), .ref (md 33), .ref (md 34), .ref (md 35), .int 0, .int 0, .int 0, .int 0, .int 0, .int 0, .int 0, .int 0, .int (-1), .int 0, .int 0, .ref (md 47), .ref (md 48), .ref (md 49), .ref (md 50)])), ((md 19), .inl ((mq 19), 1500, .inl (fun _ => 0))), (ou, .inl (co, 1, .inr (.inl (fun _ => 0))))] H) (hD : va_D (fun q : Nat => s.heap.size ≤ q) [(x0, .inr (9, [.ref (ad 0), .ref (ad 8), .int 0, .int 0, .ref (ad 9), .int 0, .ref (ad 10), .ref (ad 15), .int 0, .ref (ad 16), .ref (ad 17)])), ((ad 9), .inl ((ca 9), 1500, .inl (fun _ => 0))), (m0, .inr (10, [.int 0, .int 0, .int 0, .int 0, .ref (md 4), .ref (md 5), .ref (md 6), .ref (md 7), .ref (md 8), .ref (md 9), .ref (md 10), .ref (md 11), .int 0, .ref (md 13), .ref (md 14), .ref (md 15), .ref (md 16), .ref (md 17), .ref (md 18), .ref (md 19), .int 0, .int 0, .int 0, .int 0, .int (-1), .int 0, .ref (md 26), .ref (md 27), .ref (md 28), .ref (md 29), .ref (md 30), .ref (md 31), .ref (md 32), .ref (md 33), .ref (md 34), .ref (md 35), .int 0, .int 0, .int 0, .int 0, .int 0, .int 0, .int 0, .int 0, .int (-1), .int 0, .int 0, .ref (md 47), .ref (md 48), .ref (md 49), .ref (md 50)])), ((md 19), .inl ((mq 19), 1500, .inl (fun _ => 0))), (ou, .inl (co, 1, .inr (.inl (fun _ => 0))))]) (hS : va_S (fun q : Nat => s.heap.size ≤ q) s.heap H locs) (hl : lv_has ls 7 [(4, .int 0), (3, .ref ou), (2, .ref m0), (1, .ref x0), (0, .ref b)]) : W p l e room_1 s m #[Value.ref b] below meth c H locs 61 29719 (lw_Z below #[Value.ref b] s) (F0 m 553 ls []) := by
  obtain ⟨hx, hb, hr, hml, hown, hts, hX, hbl, hlocks, hgv⟩ := id C0
  have hown : s.vm.findClass RL = some m.cls := hown
  have hA : ∀ q : Nat, s.heap.size ≤ q → (fun q : Nat => s.heap.size ≤ q) q := fun _ h => h
  have hbA : ¬ (fun q : Nat => s.heap.size ≤ q) b := Nat.not_le.mpr hbl
  refine lv_aload_n hx hb dL_law_553 rfl (lv_at hl 3 rfl) ?_
  refine lv_aload_n hx hb dL_law_554 rfl (lv_at hl 4 rfl) ?_
  refine lv_iload hx hb dL_law_555 (lv_at hl 0 rfl) ?_
  refine lv_iconst (v := 1) hx hb dL_law_557 (by decide) ?_
  refine lv_iadd hx hb dL_law_558 ?_
  refine lv_topi (fun z_1 ez_1 => ?_)
  obtain rfl : z_1 = 1 := ez_1.trans (by decide)
  refine va_sld hx hb hX hbl hbA hS (by unfold vp_in; decide) dL_law_559 ?_
  refine W.eq (g2 := F0 m 560 ls [.int (xs 1), .ref x0]) rfl ?_
  refine lv_aload_n hx hb dL_law_560 rfl (lv_at hl 4 rfl) ?_
  refine lv_iload hx hb dL_law_561 (lv_at hl 0 rfl) ?_
  refine lv_iconst (v := 2) hx hb dL_law_563 (by decide) ?_
  refine lv_iadd hx hb dL_law_564 ?_
  refine lv_topi (fun z_2 ez_2 => ?_)
  obtain rfl : z_2 = 2 := ez_2.trans (by decide)
  refine va_sld hx hb hX hbl hbA hS (by unfold vp_in; decide) dL_law_565 ?_
  refine W.eq (g2 := F0 m 566 ls [.int (xs 2), .int (xs 1), .ref x0]) rfl ?_
  refine lv_aload_n hx hb dL_law_566 rfl (lv_at hl 4 rfl) ?_
  refine lv_iload hx hb dL_law_567 (lv_at hl 0 rfl) ?_
  refine lv_iconst (v := 3) hx hb dL_law_569 (by decide) ?_
  refine lv_iadd hx hb dL_law_570 ?_
  refine lv_topi (fun z_3 ez_3 => ?_)
  obtain rfl : z_3 = 3 := ez_3.trans (by decide)
  refine va_sld hx hb hX hbl hbA hS (by unfold vp_in; decide) dL_law_571 ?_
  refine W.eq (g2 := F0 m 572 ls [.int (xs 3), .int (xs 2), .int (xs 1), .ref x0]) rfl ?_
  refine lv_aload_n hx hb dL_law_572 rfl (lv_at hl 4 rfl) ?_
  refine lv_iload hx hb dL_law_573 (lv_at hl 0 rfl) ?_
  refine lv_iconst (v := 4) hx hb dL_law_575 (by decide) ?_
  refine lv_iadd hx hb dL_law_576 ?_
  refine lv_topi (fun z_4 ez_4 => ?_)
  obtain rfl : z_4 = 4 := ez_4.trans (by decide)
  refine va_sld hx hb hX hbl hbA hS (by unfold vp_in; decide) dL_law_577 ?_
  refine W.eq (g2 := F0 m 578 ls [.int (xs 4), .int (xs 3), .int (xs 2), .int (xs 1), .ref x0]) rfl ?_
  refine lv_aload_n hx hb dL_law_578 rfl (lv_at hl 4 rfl) ?_
  refine lv_iload hx hb dL_law_579 (lv_at hl 0 rfl) ?_
  refine lv_iconst (v := 5) hx hb dL_law_581 (by decide) ?_
  refine lv_iadd hx hb dL_law_582 ?_
  refine lv_topi (fun z_5 ez_5 => ?_)
  obtain rfl : z_5 = 5 := ez_5.trans (by decide)
  refine va_sld hx hb hX hbl hbA hS (by unfold vp_in; decide) dL_law_583 ?_
  refine W.eq (g2 := F0 m 584 ls [.int (xs 5), .int (xs 4), .int (xs 3), .int (xs 2), .int (xs 1), .ref x0]) rfl ?_
  refine go_V (wr := [(m0, .inr (10, [.int 0, .int 0, .int 0, .int 0, .ref (md 4), .ref (md 5), .ref (md 6), .ref (md 7), .ref (md 8), .ref (md 9), .ref (md 10), .ref (md 11), .int 0, .ref (md 13), .ref (md 14), .ref (md 15), .ref (md 16), .ref (md 17), .ref (md 18), .ref (md 19), .int 0, .int 0, .int 0, .int 0, .int (-1), .int 0, .ref (md 26), .ref (md 27), .ref (md 28), .ref (md 29), .ref (md 30), .ref (md 31), .ref (md 32), .ref (md 33), .ref (md 34), .ref (md 35), .int 0, .int 0, .int 0, .int 0, .int 0, .int 0, .int 0, .int 0, .int (-1), .int 0, .int 0, .ref (md 47), .ref (md 48), .ref (md 49), .ref (md 50)])), ((md 19), .inl ((mq 19), 1500, .inl (fun _ => 0))), (ou, .inl (co, 1, .inr (.inl (fun _ => 0))))]) ⟨hx, hb, hml, hown, hts⟩ (c_X9_put l dC dI sa hlt _ x0 ad ca (xs 1) (xs 2) (xs 3) (xs 4) (xs 5) ) (cwV 5 hts gL_law_X9_put rfl rfl rfl (by decide +kernel) ⟨Nat.le_of_ble_eq_true rfl, Nat.le_of_ble_eq_true rfl⟩) hP hD hK hS hA hev [0, 1] [2, 3, 4] [0] rfl rfl rfl rfl (by decide) rfl 0 9 rfl rfl rfl rfl hl.1 rfl (Nat.le_of_ble_eq_true rfl) dL_law_584 ⟨Nat.le_of_ble_eq_true rfl, Nat.le_of_ble_eq_true rfl⟩ (fun r u H locs hw hP hD hK hS => ?_)
  have hw : r = some (.int 20) ∧ (True) := hw
  obtain ⟨rfl, hw_6⟩ := hw
  have hP : va_P (dC, dI) vwCl [(m0, .inr (10, [.int 0, .int 0, .int 0, .int 0, .ref (md 4), .ref (md 5), .ref (md 6), .ref (md 7), .ref (md 8), .ref (md 9), .ref (md 10), .ref (md 11), .int 0, .ref (md 13), .ref (md 14), .ref (md 15), .ref (md 16), .ref (md 17), .ref (md 18), .ref (md 19), .int 0, .int 0, .int 0, .int 0, .int (-1), .int 0, .ref (md 26), .ref (md 27), .ref (md 28), .ref (md 29), .ref (md 30), .ref (md 31), .ref (md 32), .ref (md 33), .ref (md 34), .ref (md 35), .int 0, .int 0, .int 0, .int 0, .int 0, .int 0, .int 0, .int 0, .int (-1), .int 0, .int 0, .ref (md 47), .ref (md 48), .ref (md 49), .ref (md 50)])), ((md 19), .inl ((mq 19), 1500, .inl (fun _ => 0))), (ou, .inl (co, 1, .inr (.inl (fun _ => 0))))] _ := hP
  have hD : va_D _ [(m0, .inr (10, [.int 0, .int 0, .int 0, .int 0, .ref (md 4), .ref (md 5), .ref (md 6), .ref (md 7), .ref (md 8), .ref (md 9), .ref (md 10), .ref (md 11), .int 0, .ref (md 13), .ref (md 14), .ref (md 15), .ref (md 16), .ref (md 17), .ref (md 18), .ref (md 19), .int 0, .int 0, .int 0, .int 0, .int (-1), .int 0, .ref (md 26), .ref (md 27), .ref (md 28), .ref (md 29), .ref (md 30), .ref (md 31), .ref (md 32), .ref (md 33), .ref (md 34), .ref (md 35), .int 0, .int 0, .int 0, .int 0, .int 0, .int 0, .int 0, .int 0, .int (-1), .int 0, .int 0, .ref (md 47), .ref (md 48), .ref (md 49), .ref (md 50)])), ((md 19), .inl ((mq 19), 1500, .inl (fun _ => 0))), (ou, .inl (co, 1, .inr (.inl (fun _ => 0))))] := hD
  have hK : va_K (dC, dI) vwCl [((ca 9), .byte), ((mq 19), .int), (co, .long)] s := hK
  refine W.eq (g2 := F0 m 587 ls [.int 20]) rfl ?_
  refine lv_aload_n hx hb dL_law_587 rfl (lv_at hl 2 rfl) ?_
  refine lv_aload_n hx hb dL_law_588 rfl (lv_at hl 4 rfl) ?_
  refine lv_iload hx hb dL_law_589 (lv_at hl 0 rfl) ?_
  refine lv_iconst (v := 1) hx hb dL_law_591 (by decide) ?_
  refine lv_iadd hx hb dL_law_592 ?_
  refine lv_topi (fun z_7 ez_7 => ?_)
  obtain rfl : z_7 = 1 := ez_7.trans (by decide)
  refine va_sld hx hb hX hbl hbA hS (by unfold vp_in; decide) dL_law_593 ?_
  refine W.eq (g2 := F0 m 594 ls [.int (xs 1), .ref m0, .int 20]) rfl ?_
  refine lv_aload_n hx hb dL_law_594 rfl (lv_at hl 4 rfl) ?_
  refine lv_iload hx hb dL_law_595 (lv_at hl 0 rfl) ?_
  refine lv_iconst (v := 2) hx hb dL_law_597 (by decide) ?_
  refine lv_iadd hx hb dL_law_598 ?_
  refine lv_topi (fun z_8 ez_8 => ?_)
  obtain rfl : z_8 = 2 := ez_8.trans (by decide)
  refine va_sld hx hb hX hbl hbA hS (by unfold vp_in; decide) dL_law_599 ?_
  refine W.eq (g2 := F0 m 600 ls [.int (xs 2), .int (xs 1), .ref m0, .int 20]) rfl ?_
  refine lv_aload_n hx hb dL_law_600 rfl (lv_at hl 4 rfl) ?_
  refine lv_iload hx hb dL_law_601 (lv_at hl 0 rfl) ?_
  refine lv_iconst (v := 3) hx hb dL_law_603 (by decide) ?_
  refine lv_iadd hx hb dL_law_604 ?_
  refine lv_topi (fun z_9 ez_9 => ?_)
  obtain rfl : z_9 = 3 := ez_9.trans (by decide)
  refine va_sld hx hb hX hbl hbA hS (by unfold vp_in; decide) dL_law_605 ?_
  refine W.eq (g2 := F0 m 606 ls [.int (xs 3), .int (xs 2), .int (xs 1), .ref m0, .int 20]) rfl ?_
  refine lv_aload_n hx hb dL_law_606 rfl (lv_at hl 4 rfl) ?_
  refine lv_iload hx hb dL_law_607 (lv_at hl 0 rfl) ?_
  refine lv_iconst (v := 4) hx hb dL_law_609 (by decide) ?_
  refine lv_iadd hx hb dL_law_610 ?_
  refine lv_topi (fun z_10 ez_10 => ?_)
  obtain rfl : z_10 = 4 := ez_10.trans (by decide)
  refine va_sld hx hb hX hbl hbA hS (by unfold vp_in; decide) dL_law_611 ?_
  refine W.eq (g2 := F0 m 612 ls [.int (xs 4), .int (xs 3), .int (xs 2), .int (xs 1), .ref m0, .int 20]) rfl ?_
  refine lv_aload_n hx hb dL_law_612 rfl (lv_at hl 4 rfl) ?_
  refine lv_iload hx hb dL_law_613 (lv_at hl 0 rfl) ?_
  refine lv_iconst (v := 5) hx hb dL_law_615 (by decide) ?_
  refine lv_iadd hx hb dL_law_616 ?_
  refine lv_topi (fun z_11 ez_11 => ?_)
  obtain rfl : z_11 = 5 := ez_11.trans (by decide)
  refine va_sld hx hb hX hbl hbA hS (by unfold vp_in; decide) dL_law_617 ?_
  refine W.eq (g2 := F0 m 618 ls [.int (xs 5), .int (xs 4), .int (xs 3), .int (xs 2), .int (xs 1), .ref m0, .int 20]) rfl ?_
  refine go_V (wr := [(ou, .inl (co, 1, .inr (.inl (fun _ => 0))))]) ⟨hx, hb, hml, hown, hts⟩ (c_X10_put l dC dI sa hlt _ m0 md mq (xs 1) (xs 2) (xs 3) (xs 4) (xs 5) ) (cwV 5 hts gL_law_X10_put rfl rfl rfl (by decide +kernel) ⟨Nat.le_of_ble_eq_true rfl, Nat.le_of_ble_eq_true rfl⟩) hP hD hK hS hA hev [0, 1] [2] [1] rfl rfl rfl rfl (by decide) rfl 0 10 rfl rfl rfl rfl hl.1 rfl (Nat.le_of_ble_eq_true rfl) dL_law_618 ⟨Nat.le_of_ble_eq_true rfl, Nat.le_of_ble_eq_true rfl⟩ (fun r u H locs hw hP hD hK hS => ?_)
  obtain ⟨x_12, J_13⟩ := u
  have hw : r = some (.int x_12) ∧ (x_12 = 20) := hw
  obtain ⟨rfl, hw_14⟩ := hw
  have hP : va_P (dC, dI) vwCl [(ou, .inl (co, 1, .inr (.inl (fun _ => 0)))), (m0, .inr (10, [.int (J_13 0), .int (J_13 1), .int (J_13 2), .int (J_13 3), .ref (md 4), .ref (md 5), .ref (md 6), .ref (md 7), .ref (md 8), .ref (md 9), .ref (md 10), .ref (md 11), .int (J_13 12), .ref (md 13), .ref (md 14), .ref (md 15), .ref (md 16), .ref (md 17), .ref (md 18), .ref (md 19), .int (J_13 20), .int (J_13 21), .int (J_13 22), .int (J_13 23), .int (J_13 24), .int (J_13 25), .ref (md 26), .ref (md 27), .ref (md 28), .ref (md 29), .ref (md 30), .ref (md 31), .ref (md 32), .ref (md 33), .ref (md 34), .ref (md 35), .int (J_13 36), .int (J_13 37), .int (J_13 38), .int (J_13 39), .int (J_13 40), .int (J_13 41), .int (J_13 42), .int (J_13 43), .int (J_13 44), .int (J_13 45), .int (J_13 46), .ref (md 47), .ref (md 48), .ref (md 49), .ref (md 50)]))] _ := hP
  have hD : va_D _ [(ou, .inl (co, 1, .inr (.inl (fun _ => 0)))), (m0, .inr (10, [.int (J_13 0), .int (J_13 1), .int (J_13 2), .int (J_13 3), .ref (md 4), .ref (md 5), .ref (md 6), .ref (md 7), .ref (md 8), .ref (md 9), .ref (md 10), .ref (md 11), .int (J_13 12), .ref (md 13), .ref (md 14), .ref (md 15), .ref (md 16), .ref (md 17), .ref (md 18), .ref (md 19), .int (J_13 20), .int (J_13 21), .int (J_13 22), .int (J_13 23), .int (J_13 24), .int (J_13 25), .ref (md 26), .ref (md 27), .ref (md 28), .ref (md 29), .ref (md 30), .ref (md 31), .ref (md 32), .ref (md 33), .ref (md 34), .ref (md 35), .int (J_13 36), .int (J_13 37), .int (J_13 38), .int (J_13 39), .int (J_13 40), .int (J_13 41), .int (J_13 42), .int (J_13 43), .int (J_13 44), .int (J_13 45), .int (J_13 46), .ref (md 47), .ref (md 48), .ref (md 49), .ref (md 50)]))] := hD
  have hK : va_K (dC, dI) vwCl [((ca 9), .byte), ((mq 19), .int), (co, .long)] s := hK
  refine W.eq (g2 := F0 m 621 ls [.int x_12, .int 20]) rfl ?_
  have hk9 := hw_14.symm
  refine lv_icmp_eq (tgt := 1386) hx hb dL_law_621 (by decide) (fun c_15 => ?_) (fun c_15 => ?_)
  rotate_left
  · exact absurd c_15 (fun h => h hk9)
  exact law_end (dC := dC) (dI := dI) hlt C0 hev hS (Nat.le_of_ble_eq_true rfl) (Nat.le_of_ble_eq_true rfl) (lv_sub hl [0, 4] rfl)

set_option maxHeartbeats 4000000 in
set_option maxRecDepth 100000 in
theorem law_recipe {p : Program} {l : Launch} {e : Env} {s : State} {m : MethodId} {below : List Frame} {meth : Method} {c : Code} {b : Nat} {xs : Nat → Int32} (hlt : l.stackTraces = false) (C0 : lw_At p s m meth c b 6 xs) {dC : Nat → ClassId} {dI : Nat → Nat → Nat} {sa : Nat → Nat} (hev : ev sa (fun q : Nat => s.heap.size ≤ q) s s.heap) {H : Heap} {locs : List Loc} {ls : Array Slot} {x0 m0 ou : Nat} {co : ClassId} {ad : Nat → Nat} {ca : Nat → ClassId} {md : Nat → Nat} {mq : Nat → ClassId} {ff : Nat → Int32} (hK : va_K (dC, dI) vwCl [((ca 12), .int), ((ca 13), .int), ((ca 14), .int), ((ca 9), .byte), ((ca 15), .object "VatHouse$Recipe"), ((mq 34), .int), ((mq 35), .int), (co, .long)] s) (hP : va_P (dC, dI) vwCl [(x0, .inr (9, [.ref (ad 0), .ref (ad 8), .int 0, .int 0, .ref (ad 9), .int 0, .ref (ad 10), .ref (ad 15), .int 0, .ref (ad 16), .ref (ad 17)])), ((ad 10), .inr (2, [.ref (ad 11), .int 0, .int 0, .int 0, .int (-1), .int 0])), ((ad 11), .inr (6, [.ref (ad 9), .int 0, .int 0, .int 0, .ref (ad 12), .ref (ad 13), .ref (ad 14)])), ((ad 12), .inl ((ca 12), 1501, .inl (fun _ => 0))), ((ad 13), .inl ((ca 13), 1501, .inl (fun _ => 0))), ((ad 14), .inl ((ca 14), 1501, .inl (fun _ => 0))), ((ad 9), .inl ((ca 9), 1500, .inl (fun _ => 0))), ((ad 15), .inl ((ca 15), 8, .inr (.inr (.inr (.inr (fun _ => none)))))), (m0, .inr (10, [.int 0, .int 0, .int 0, .int 0, .ref (md 4), .ref (md 5), .ref (md 6), .ref (md 7), .ref (md 8), .ref (md 9), .ref (md 10), .ref (md 11), .int 0, .ref (md 13), .ref (md 14), .ref (md 15), .ref (md 16), .ref (md 17), .ref (md 18), .ref (md 19), .int 0, .int 0, .int 0, .int 0, .int (-1), .int 0, .ref (md 26), .ref (md 27), .ref (md 28), .ref (md 29), .ref (md 30), .ref (md 31), .ref (md 32), .ref (md 33), .ref (md 34), .ref (md 35), .int 0, .int 0, .int 0, .int 0, .int 0, .int 0, .int 0, .int 0, .int (-1), .int 0, .int 0, .ref (md 47), .ref (md 48), .ref (md 49), .ref (md 50)])), ((md 34), .inl ((mq 34), 8, .inl ff)), ((md 35), .inl ((mq 35), 8, .inl (fun _ => 0))), (ou, .inl (co, 1, .inr (.inl (fun _ => 0))))] H) (hD : va_D (fun q : Nat => s.heap.size ≤ q) [(x0, .inr (9, [.ref (ad 0), .ref (ad 8), .int 0, .int 0, .ref (ad 9), .int 0, .ref (ad 10), .ref (ad 15), .int 0, .ref (ad 16), .ref (ad 17)])), ((ad 10), .inr (2, [.ref (ad 11), .int 0, .int 0, .int 0, .int (-1), .int 0])), ((ad 11), .inr (6, [.ref (ad 9), .int 0, .int 0, .int 0, .ref (ad 12), .ref (ad 13), .ref (ad 14)])), ((ad 12), .inl ((ca 12), 1501, .inl (fun _ => 0))), ((ad 13), .inl ((ca 13), 1501, .inl (fun _ => 0))), ((ad 14), .inl ((ca 14), 1501, .inl (fun _ => 0))), ((ad 9), .inl ((ca 9), 1500, .inl (fun _ => 0))), ((ad 15), .inl ((ca 15), 8, .inr (.inr (.inr (.inr (fun _ => none)))))), (m0, .inr (10, [.int 0, .int 0, .int 0, .int 0, .ref (md 4), .ref (md 5), .ref (md 6), .ref (md 7), .ref (md 8), .ref (md 9), .ref (md 10), .ref (md 11), .int 0, .ref (md 13), .ref (md 14), .ref (md 15), .ref (md 16), .ref (md 17), .ref (md 18), .ref (md 19), .int 0, .int 0, .int 0, .int 0, .int (-1), .int 0, .ref (md 26), .ref (md 27), .ref (md 28), .ref (md 29), .ref (md 30), .ref (md 31), .ref (md 32), .ref (md 33), .ref (md 34), .ref (md 35), .int 0, .int 0, .int 0, .int 0, .int 0, .int 0, .int 0, .int 0, .int (-1), .int 0, .int 0, .ref (md 47), .ref (md 48), .ref (md 49), .ref (md 50)])), ((md 34), .inl ((mq 34), 8, .inl ff)), ((md 35), .inl ((mq 35), 8, .inl (fun _ => 0))), (ou, .inl (co, 1, .inr (.inl (fun _ => 0))))]) (hS : va_S (fun q : Nat => s.heap.size ≤ q) s.heap H locs) (hl : lv_has ls 7 [(4, .int 0), (3, .ref ou), (2, .ref m0), (1, .ref x0), (0, .ref b)]) : W p l e room_1 s m #[Value.ref b] below meth c H locs 61 29719 (lw_Z below #[Value.ref b] s) (F0 m 626 ls []) := by
  obtain ⟨hx, hb, hr, hml, hown, hts, hX, hbl, hlocks, hgv⟩ := id C0
  have hown : s.vm.findClass RL = some m.cls := hown
  have hA : ∀ q : Nat, s.heap.size ≤ q → (fun q : Nat => s.heap.size ≤ q) q := fun _ h => h
  have hbA : ¬ (fun q : Nat => s.heap.size ≤ q) b := Nat.not_le.mpr hbl
  refine lv_aload_n hx hb dL_law_626 rfl (lv_at hl 3 rfl) ?_
  refine lv_aload_n hx hb dL_law_627 rfl (lv_at hl 4 rfl) ?_
  refine lv_iload hx hb dL_law_628 (lv_at hl 0 rfl) ?_
  refine lv_iconst (v := 1) hx hb dL_law_630 (by decide) ?_
  refine lv_iadd hx hb dL_law_631 ?_
  refine lv_topi (fun z_1 ez_1 => ?_)
  obtain rfl : z_1 = 1 := ez_1.trans (by decide)
  refine va_sld hx hb hX hbl hbA hS (by unfold vp_in; decide) dL_law_632 ?_
  refine W.eq (g2 := F0 m 633 ls [.int (xs 1), .ref x0]) rfl ?_
  refine lv_aload_n hx hb dL_law_633 rfl (lv_at hl 4 rfl) ?_
  refine lv_iload hx hb dL_law_634 (lv_at hl 0 rfl) ?_
  refine lv_iconst (v := 2) hx hb dL_law_636 (by decide) ?_
  refine lv_iadd hx hb dL_law_637 ?_
  refine lv_topi (fun z_2 ez_2 => ?_)
  obtain rfl : z_2 = 2 := ez_2.trans (by decide)
  refine va_sld hx hb hX hbl hbA hS (by unfold vp_in; decide) dL_law_638 ?_
  refine W.eq (g2 := F0 m 639 ls [.int (xs 2), .int (xs 1), .ref x0]) rfl ?_
  refine lv_aload_n hx hb dL_law_639 rfl (lv_at hl 1 rfl) ?_
  refine go_SW (wr := [(m0, .inr (10, [.int 0, .int 0, .int 0, .int 0, .ref (md 4), .ref (md 5), .ref (md 6), .ref (md 7), .ref (md 8), .ref (md 9), .ref (md 10), .ref (md 11), .int 0, .ref (md 13), .ref (md 14), .ref (md 15), .ref (md 16), .ref (md 17), .ref (md 18), .ref (md 19), .int 0, .int 0, .int 0, .int 0, .int (-1), .int 0, .ref (md 26), .ref (md 27), .ref (md 28), .ref (md 29), .ref (md 30), .ref (md 31), .ref (md 32), .ref (md 33), .ref (md 34), .ref (md 35), .int 0, .int 0, .int 0, .int 0, .int 0, .int 0, .int 0, .int 0, .int (-1), .int 0, .int 0, .ref (md 47), .ref (md 48), .ref (md 49), .ref (md 50)])), ((md 34), .inl ((mq 34), 8, .inl ff)), ((md 35), .inl ((mq 35), 8, .inl (fun _ => 0)))]) ⟨hx, hb, hml, hown, hts⟩ (c_L_recipe l dC dI sa hlt _ x0 ad ca ou co (fun _ => 0) (xs 1) (xs 2) ) (vx_cwSW 4 hts gL_law_L_recipe rfl rfl rfl (by decide +kernel) ⟨Nat.le_of_ble_eq_true rfl, Nat.le_of_ble_eq_true rfl⟩) hP hD hK hS hA hev [0, 1, 2, 3, 4, 5, 6, 7, 11] [8, 9, 10] [0, 1, 2, 3, 4, 7] rfl rfl rfl rfl (by decide) rfl rfl hl.1 rfl (Nat.le_of_ble_eq_true rfl) dL_law_640 ⟨Nat.le_of_ble_eq_true rfl, Nat.le_of_ble_eq_true rfl⟩ (fun r u H locs hw hP hD hK hS => ?_)
  obtain ⟨k_3, g_4⟩ := u
  have hw : r = some (.int k_3) ∧ (∃ y : Int32, E_recipe (xs 1) (xs 2) = (k_3, y) ∧ (k_3 = 0 → g_4 0 = y.toInt64)) := hw
  obtain ⟨rfl, hw_5⟩ := hw
  have hP : va_P (dC, dI) vwCl [(m0, .inr (10, [.int 0, .int 0, .int 0, .int 0, .ref (md 4), .ref (md 5), .ref (md 6), .ref (md 7), .ref (md 8), .ref (md 9), .ref (md 10), .ref (md 11), .int 0, .ref (md 13), .ref (md 14), .ref (md 15), .ref (md 16), .ref (md 17), .ref (md 18), .ref (md 19), .int 0, .int 0, .int 0, .int 0, .int (-1), .int 0, .ref (md 26), .ref (md 27), .ref (md 28), .ref (md 29), .ref (md 30), .ref (md 31), .ref (md 32), .ref (md 33), .ref (md 34), .ref (md 35), .int 0, .int 0, .int 0, .int 0, .int 0, .int 0, .int 0, .int 0, .int (-1), .int 0, .int 0, .ref (md 47), .ref (md 48), .ref (md 49), .ref (md 50)])), ((md 34), .inl ((mq 34), 8, .inl ff)), ((md 35), .inl ((mq 35), 8, .inl (fun _ => 0))), (ou, .inl (co, 1, .inr (.inl g_4)))] _ := hP
  have hD : va_D _ [(m0, .inr (10, [.int 0, .int 0, .int 0, .int 0, .ref (md 4), .ref (md 5), .ref (md 6), .ref (md 7), .ref (md 8), .ref (md 9), .ref (md 10), .ref (md 11), .int 0, .ref (md 13), .ref (md 14), .ref (md 15), .ref (md 16), .ref (md 17), .ref (md 18), .ref (md 19), .int 0, .int 0, .int 0, .int 0, .int (-1), .int 0, .ref (md 26), .ref (md 27), .ref (md 28), .ref (md 29), .ref (md 30), .ref (md 31), .ref (md 32), .ref (md 33), .ref (md 34), .ref (md 35), .int 0, .int 0, .int 0, .int 0, .int 0, .int 0, .int 0, .int 0, .int (-1), .int 0, .int 0, .ref (md 47), .ref (md 48), .ref (md 49), .ref (md 50)])), ((md 34), .inl ((mq 34), 8, .inl ff)), ((md 35), .inl ((mq 35), 8, .inl (fun _ => 0))), (ou, .inl (co, 1, .inr (.inl g_4)))] := hD
  have hK : va_K (dC, dI) vwCl [((ca 12), .int), ((ca 13), .int), ((ca 14), .int), ((ca 9), .byte), ((ca 15), .object "VatHouse$Recipe"), ((mq 34), .int), ((mq 35), .int), (co, .long)] s := hK
  refine W.eq (g2 := F0 m 643 ls [.int k_3]) rfl ?_
  refine lv_istore (lv' := [(5, .int k_3), (4, .int 0), (3, .ref ou), (2, .ref m0), (1, .ref x0), (0, .ref b)]) hx hb dL_law_643 hl (by decide) rfl (fun ls hl => ?_)
  refine lv_aload_n hx hb dL_law_645 rfl (lv_at hl 3 rfl) ?_
  refine lv_aload_n hx hb dL_law_646 rfl (lv_at hl 5 rfl) ?_
  refine lv_iload hx hb dL_law_647 (lv_at hl 1 rfl) ?_
  refine lv_iconst (v := 1) hx hb dL_law_649 (by decide) ?_
  refine lv_iadd hx hb dL_law_650 ?_
  refine lv_topi (fun z_6 ez_6 => ?_)
  obtain rfl : z_6 = 1 := ez_6.trans (by decide)
  refine va_sld hx hb hX hbl hbA hS (by unfold vp_in; decide) dL_law_651 ?_
  refine W.eq (g2 := F0 m 652 ls [.int (xs 1), .ref m0]) rfl ?_
  refine lv_aload_n hx hb dL_law_652 rfl (lv_at hl 5 rfl) ?_
  refine lv_iload hx hb dL_law_653 (lv_at hl 1 rfl) ?_
  refine lv_iconst (v := 2) hx hb dL_law_655 (by decide) ?_
  refine lv_iadd hx hb dL_law_656 ?_
  refine lv_topi (fun z_7 ez_7 => ?_)
  obtain rfl : z_7 = 2 := ez_7.trans (by decide)
  refine va_sld hx hb hX hbl hbA hS (by unfold vp_in; decide) dL_law_657 ?_
  refine W.eq (g2 := F0 m 658 ls [.int (xs 2), .int (xs 1), .ref m0]) rfl ?_
  refine go_V (wr := [(ou, .inl (co, 1, .inr (.inl g_4)))]) ⟨hx, hb, hml, hown, hts⟩ (c_X10_recipe l dC dI sa hlt _ m0 md mq ff (xs 1) (xs 2) ) (cwV 2 hts gL_law_X10_recipe rfl rfl rfl (by decide +kernel) ⟨Nat.le_of_ble_eq_true rfl, Nat.le_of_ble_eq_true rfl⟩) hP hD hK hS hA hev [0, 1, 2] [3] [5, 6] rfl rfl rfl rfl (by decide) rfl 0 10 rfl rfl rfl rfl hl.1 rfl (Nat.le_of_ble_eq_true rfl) dL_law_658 ⟨Nat.le_of_ble_eq_true rfl, Nat.le_of_ble_eq_true rfl⟩ (fun r u H locs hw hP hD hK hS => ?_)
  obtain ⟨x_8, J_9⟩ := u
  have hw : r = some (.int x_8) ∧ (E_recipe (xs 1) (xs 2) = (J_9 0, x_8)) := hw
  obtain ⟨rfl, hw_10⟩ := hw
  have hP : va_P (dC, dI) vwCl [(ou, .inl (co, 1, .inr (.inl g_4))), (m0, .inr (10, [.int (J_9 0), .int (J_9 1), .int (J_9 2), .int (J_9 3), .ref (md 4), .ref (md 5), .ref (md 6), .ref (md 7), .ref (md 8), .ref (md 9), .ref (md 10), .ref (md 11), .int (J_9 12), .ref (md 13), .ref (md 14), .ref (md 15), .ref (md 16), .ref (md 17), .ref (md 18), .ref (md 19), .int (J_9 20), .int (J_9 21), .int (J_9 22), .int (J_9 23), .int (J_9 24), .int (J_9 25), .ref (md 26), .ref (md 27), .ref (md 28), .ref (md 29), .ref (md 30), .ref (md 31), .ref (md 32), .ref (md 33), .ref (md 34), .ref (md 35), .int (J_9 36), .int (J_9 37), .int (J_9 38), .int (J_9 39), .int (J_9 40), .int (J_9 41), .int (J_9 42), .int (J_9 43), .int (J_9 44), .int (J_9 45), .int (J_9 46), .ref (md 47), .ref (md 48), .ref (md 49), .ref (md 50)]))] _ := hP
  have hD : va_D _ [(ou, .inl (co, 1, .inr (.inl g_4))), (m0, .inr (10, [.int (J_9 0), .int (J_9 1), .int (J_9 2), .int (J_9 3), .ref (md 4), .ref (md 5), .ref (md 6), .ref (md 7), .ref (md 8), .ref (md 9), .ref (md 10), .ref (md 11), .int (J_9 12), .ref (md 13), .ref (md 14), .ref (md 15), .ref (md 16), .ref (md 17), .ref (md 18), .ref (md 19), .int (J_9 20), .int (J_9 21), .int (J_9 22), .int (J_9 23), .int (J_9 24), .int (J_9 25), .ref (md 26), .ref (md 27), .ref (md 28), .ref (md 29), .ref (md 30), .ref (md 31), .ref (md 32), .ref (md 33), .ref (md 34), .ref (md 35), .int (J_9 36), .int (J_9 37), .int (J_9 38), .int (J_9 39), .int (J_9 40), .int (J_9 41), .int (J_9 42), .int (J_9 43), .int (J_9 44), .int (J_9 45), .int (J_9 46), .ref (md 47), .ref (md 48), .ref (md 49), .ref (md 50)]))] := hD
  have hK : va_K (dC, dI) vwCl [((ca 12), .int), ((ca 13), .int), ((ca 14), .int), ((ca 9), .byte), ((ca 15), .object "VatHouse$Recipe"), ((mq 34), .int), ((mq 35), .int), (co, .long)] s := hK
  refine W.eq (g2 := F0 m 661 ls [.int x_8]) rfl ?_
  obtain ⟨y9, hE1, hE2⟩ := hw_5
  obtain ⟨hk9, hy9⟩ := Prod.mk.inj (hE1.symm.trans hw_10)
  refine lv_istore (lv' := [(6, .int x_8), (5, .int k_3), (4, .int 0), (3, .ref ou), (2, .ref m0), (1, .ref x0), (0, .ref b)]) hx hb dL_law_661 hl (by decide) rfl (fun ls hl => ?_)
  refine lv_aload_n hx hb dL_law_663 rfl (lv_at hl 4 rfl) ?_
  refine go_V (wr := [(ou, .inl (co, 1, .inr (.inl g_4)))]) ⟨hx, hb, hml, hown, hts⟩ (c_X10_thrown l dC dI sa hlt _ m0 md J_9 ) (cwV 0 hts gL_law_X10_thrown rfl rfl rfl (by decide +kernel) ⟨Nat.le_of_ble_eq_true rfl, Nat.le_of_ble_eq_true rfl⟩) hP hD hK hS hA hev [1] [0] [] rfl rfl rfl rfl (by decide) rfl 1 10 rfl rfl rfl rfl hl.1 rfl (Nat.le_of_ble_eq_true rfl) dL_law_664 ⟨Nat.le_of_ble_eq_true rfl, Nat.le_of_ble_eq_true rfl⟩ (fun r u H locs hw hP hD hK hS => ?_)
  have hw : r = some (.int (J_9 0)) ∧ (True) := hw
  obtain ⟨rfl, hw_11⟩ := hw
  have hP : va_P (dC, dI) vwCl [(ou, .inl (co, 1, .inr (.inl g_4))), (m0, .inr (10, [.int (J_9 0), .int (J_9 1), .int (J_9 2), .int (J_9 3), .ref (md 4), .ref (md 5), .ref (md 6), .ref (md 7), .ref (md 8), .ref (md 9), .ref (md 10), .ref (md 11), .int (J_9 12), .ref (md 13), .ref (md 14), .ref (md 15), .ref (md 16), .ref (md 17), .ref (md 18), .ref (md 19), .int (J_9 20), .int (J_9 21), .int (J_9 22), .int (J_9 23), .int (J_9 24), .int (J_9 25), .ref (md 26), .ref (md 27), .ref (md 28), .ref (md 29), .ref (md 30), .ref (md 31), .ref (md 32), .ref (md 33), .ref (md 34), .ref (md 35), .int (J_9 36), .int (J_9 37), .int (J_9 38), .int (J_9 39), .int (J_9 40), .int (J_9 41), .int (J_9 42), .int (J_9 43), .int (J_9 44), .int (J_9 45), .int (J_9 46), .ref (md 47), .ref (md 48), .ref (md 49), .ref (md 50)]))] _ := hP
  have hD : va_D _ [(ou, .inl (co, 1, .inr (.inl g_4))), (m0, .inr (10, [.int (J_9 0), .int (J_9 1), .int (J_9 2), .int (J_9 3), .ref (md 4), .ref (md 5), .ref (md 6), .ref (md 7), .ref (md 8), .ref (md 9), .ref (md 10), .ref (md 11), .int (J_9 12), .ref (md 13), .ref (md 14), .ref (md 15), .ref (md 16), .ref (md 17), .ref (md 18), .ref (md 19), .int (J_9 20), .int (J_9 21), .int (J_9 22), .int (J_9 23), .int (J_9 24), .int (J_9 25), .ref (md 26), .ref (md 27), .ref (md 28), .ref (md 29), .ref (md 30), .ref (md 31), .ref (md 32), .ref (md 33), .ref (md 34), .ref (md 35), .int (J_9 36), .int (J_9 37), .int (J_9 38), .int (J_9 39), .int (J_9 40), .int (J_9 41), .int (J_9 42), .int (J_9 43), .int (J_9 44), .int (J_9 45), .int (J_9 46), .ref (md 47), .ref (md 48), .ref (md 49), .ref (md 50)]))] := hD
  have hK : va_K (dC, dI) vwCl [((ca 12), .int), ((ca 13), .int), ((ca 14), .int), ((ca 9), .byte), ((ca 15), .object "VatHouse$Recipe"), ((mq 34), .int), ((mq 35), .int), (co, .long)] s := hK
  refine W.eq (g2 := F0 m 667 ls [.int (J_9 0)]) rfl ?_
  refine lv_iload hx hb dL_law_667 (lv_at hl 1 rfl) ?_
  refine lv_icmp_eq (tgt := 674) hx hb dL_law_669 (by decide) (fun c_12 => ?_) (fun c_12 => ?_)
  rotate_left
  · exact absurd c_12 (fun h => h hk9.symm)
  refine lv_iload hx hb dL_law_674 (lv_at hl 1 rfl) ?_
  refine lv_if_ne (tgt := 691) hx hb dL_law_676 (by decide) (fun c_13 => ?_) (fun c_13 => ?_)
  · refine lv_goto (tgt := 1386) hx hb dL_law_691 (by decide) ?_
    exact law_end (dC := dC) (dI := dI) hlt C0 hev hS (Nat.le_of_ble_eq_true rfl) (Nat.le_of_ble_eq_true rfl) (lv_sub hl [2, 6] rfl)
  · refine lv_aload_n hx hb dL_law_679 rfl (lv_at hl 3 rfl) ?_
    refine lv_iconst (v := 0) hx hb dL_law_680 (by decide) ?_
    refine va_lald hx hb hK hP 0 7 rfl rfl (by unfold vp_in; decide) dL_law_681 ?_
    refine lv_iload hx hb dL_law_682 (lv_at hl 0 rfl) ?_
    refine lv_i2l (v := (x_8).toInt64) hx hb dL_law_684 rfl ?_
    refine W.lcmp hx hb dL_law_685 ?_
    refine lv_topi (fun z_14 ez_14 => ?_)
    refine lv_if_eq (tgt := 691) hx hb dL_law_686 (by decide) (fun c_15 => ?_) (fun c_15 => ?_)
    rotate_left
    · exact absurd c_15 (fun h => h (ez_14.trans (lgc ((hE2 c_13).trans (by rw [hy9])))))
    refine lv_goto (tgt := 1386) hx hb dL_law_691 (by decide) ?_
    exact law_end (dC := dC) (dI := dI) hlt C0 hev hS (Nat.le_of_ble_eq_true rfl) (Nat.le_of_ble_eq_true rfl) (lv_sub hl [2, 6] rfl)

set_option maxHeartbeats 4000000 in
set_option maxRecDepth 100000 in
theorem law_fault {p : Program} {l : Launch} {e : Env} {s : State} {m : MethodId} {below : List Frame} {meth : Method} {c : Code} {b : Nat} {xs : Nat → Int32} (hlt : l.stackTraces = false) (C0 : lw_At p s m meth c b 6 xs) {dC : Nat → ClassId} {dI : Nat → Nat → Nat} {sa : Nat → Nat} (hev : ev sa (fun q : Nat => s.heap.size ≤ q) s s.heap) {H : Heap} {locs : List Loc} {ls : Array Slot} {x0 m0 ou : Nat} {co : ClassId} {ad : Nat → Nat} {md : Nat → Nat} {mq : Nat → ClassId} (hK : va_K (dC, dI) vwCl [(co, .long)] s) (hP : va_P (dC, dI) vwCl [(x0, .inr (9, [.ref (ad 0), .ref (ad 8), .int 0, .int 0, .ref (ad 9), .int 0, .ref (ad 10), .ref (ad 15), .int 0, .ref (ad 16), .ref (ad 17)])), ((ad 10), .inr (2, [.ref (ad 11), .int 0, .int 0, .int 0, .int (-1), .int 0])), (m0, .inr (10, [.int 0, .int 0, .int 0, .int 0, .ref (md 4), .ref (md 5), .ref (md 6), .ref (md 7), .ref (md 8), .ref (md 9), .ref (md 10), .ref (md 11), .int 0, .ref (md 13), .ref (md 14), .ref (md 15), .ref (md 16), .ref (md 17), .ref (md 18), .ref (md 19), .int 0, .int 0, .int 0, .int 0, .int (-1), .int 0, .ref (md 26), .ref (md 27), .ref (md 28), .ref (md 29), .ref (md 30), .ref (md 31), .ref (md 32), .ref (md 33), .ref (md 34), .ref (md 35), .int 0, .int 0, .int 0, .int 0, .int 0, .int 0, .int 0, .int 0, .int (-1), .int 0, .int 0, .ref (md 47), .ref (md 48), .ref (md 49), .ref (md 50)])), (ou, .inl (co, 1, .inr (.inl (fun _ => 0))))] H) (hD : va_D (fun q : Nat => s.heap.size ≤ q) [(x0, .inr (9, [.ref (ad 0), .ref (ad 8), .int 0, .int 0, .ref (ad 9), .int 0, .ref (ad 10), .ref (ad 15), .int 0, .ref (ad 16), .ref (ad 17)])), ((ad 10), .inr (2, [.ref (ad 11), .int 0, .int 0, .int 0, .int (-1), .int 0])), (m0, .inr (10, [.int 0, .int 0, .int 0, .int 0, .ref (md 4), .ref (md 5), .ref (md 6), .ref (md 7), .ref (md 8), .ref (md 9), .ref (md 10), .ref (md 11), .int 0, .ref (md 13), .ref (md 14), .ref (md 15), .ref (md 16), .ref (md 17), .ref (md 18), .ref (md 19), .int 0, .int 0, .int 0, .int 0, .int (-1), .int 0, .ref (md 26), .ref (md 27), .ref (md 28), .ref (md 29), .ref (md 30), .ref (md 31), .ref (md 32), .ref (md 33), .ref (md 34), .ref (md 35), .int 0, .int 0, .int 0, .int 0, .int 0, .int 0, .int 0, .int 0, .int (-1), .int 0, .int 0, .ref (md 47), .ref (md 48), .ref (md 49), .ref (md 50)])), (ou, .inl (co, 1, .inr (.inl (fun _ => 0))))]) (hS : va_S (fun q : Nat => s.heap.size ≤ q) s.heap H locs) (hl : lv_has ls 7 [(4, .int 0), (3, .ref ou), (2, .ref m0), (1, .ref x0), (0, .ref b)]) : W p l e room_1 s m #[Value.ref b] below meth c H locs 61 29719 (lw_Z below #[Value.ref b] s) (F0 m 694 ls []) := by
  obtain ⟨hx, hb, hr, hml, hown, hts, hX, hbl, hlocks, hgv⟩ := id C0
  have hown : s.vm.findClass RL = some m.cls := hown
  have hA : ∀ q : Nat, s.heap.size ≤ q → (fun q : Nat => s.heap.size ≤ q) q := fun _ h => h
  have hbA : ¬ (fun q : Nat => s.heap.size ≤ q) b := Nat.not_le.mpr hbl
  refine lv_aload_n hx hb dL_law_694 rfl (lv_at hl 3 rfl) ?_
  refine lv_aload_n hx hb dL_law_695 rfl (lv_at hl 4 rfl) ?_
  refine lv_iload hx hb dL_law_696 (lv_at hl 0 rfl) ?_
  refine lv_iconst (v := 1) hx hb dL_law_698 (by decide) ?_
  refine lv_iadd hx hb dL_law_699 ?_
  refine lv_topi (fun z_1 ez_1 => ?_)
  obtain rfl : z_1 = 1 := ez_1.trans (by decide)
  refine va_sld hx hb hX hbl hbA hS (by unfold vp_in; decide) dL_law_700 ?_
  refine W.eq (g2 := F0 m 701 ls [.int (xs 1), .ref x0]) rfl ?_
  refine lv_aload_n hx hb dL_law_701 rfl (lv_at hl 1 rfl) ?_
  refine go_SW (wr := [(m0, .inr (10, [.int 0, .int 0, .int 0, .int 0, .ref (md 4), .ref (md 5), .ref (md 6), .ref (md 7), .ref (md 8), .ref (md 9), .ref (md 10), .ref (md 11), .int 0, .ref (md 13), .ref (md 14), .ref (md 15), .ref (md 16), .ref (md 17), .ref (md 18), .ref (md 19), .int 0, .int 0, .int 0, .int 0, .int (-1), .int 0, .ref (md 26), .ref (md 27), .ref (md 28), .ref (md 29), .ref (md 30), .ref (md 31), .ref (md 32), .ref (md 33), .ref (md 34), .ref (md 35), .int 0, .int 0, .int 0, .int 0, .int 0, .int 0, .int 0, .int 0, .int (-1), .int 0, .int 0, .ref (md 47), .ref (md 48), .ref (md 49), .ref (md 50)]))]) ⟨hx, hb, hml, hown, hts⟩ (c_L_fault l dC dI sa hlt _ x0 ad ou co (fun _ => 0) (xs 1) ) (vx_cwSW 3 hts gL_law_L_fault rfl rfl rfl (by decide +kernel) ⟨Nat.le_of_ble_eq_true rfl, Nat.le_of_ble_eq_true rfl⟩) hP hD hK hS hA hev [0, 1, 3] [2] [0] rfl rfl rfl rfl (by decide) rfl rfl hl.1 rfl (Nat.le_of_ble_eq_true rfl) dL_law_702 ⟨Nat.le_of_ble_eq_true rfl, Nat.le_of_ble_eq_true rfl⟩ (fun r u H locs hw hP hD hK hS => ?_)
  obtain ⟨k_2, g_3⟩ := u
  have hw : r = some (.int k_2) ∧ (∃ y : Int32, E_fault (xs 1) = (k_2, y) ∧ (k_2 = 0 → g_3 0 = y.toInt64)) := hw
  obtain ⟨rfl, hw_4⟩ := hw
  have hP : va_P (dC, dI) vwCl [(m0, .inr (10, [.int 0, .int 0, .int 0, .int 0, .ref (md 4), .ref (md 5), .ref (md 6), .ref (md 7), .ref (md 8), .ref (md 9), .ref (md 10), .ref (md 11), .int 0, .ref (md 13), .ref (md 14), .ref (md 15), .ref (md 16), .ref (md 17), .ref (md 18), .ref (md 19), .int 0, .int 0, .int 0, .int 0, .int (-1), .int 0, .ref (md 26), .ref (md 27), .ref (md 28), .ref (md 29), .ref (md 30), .ref (md 31), .ref (md 32), .ref (md 33), .ref (md 34), .ref (md 35), .int 0, .int 0, .int 0, .int 0, .int 0, .int 0, .int 0, .int 0, .int (-1), .int 0, .int 0, .ref (md 47), .ref (md 48), .ref (md 49), .ref (md 50)])), (ou, .inl (co, 1, .inr (.inl g_3)))] _ := hP
  have hD : va_D _ [(m0, .inr (10, [.int 0, .int 0, .int 0, .int 0, .ref (md 4), .ref (md 5), .ref (md 6), .ref (md 7), .ref (md 8), .ref (md 9), .ref (md 10), .ref (md 11), .int 0, .ref (md 13), .ref (md 14), .ref (md 15), .ref (md 16), .ref (md 17), .ref (md 18), .ref (md 19), .int 0, .int 0, .int 0, .int 0, .int (-1), .int 0, .ref (md 26), .ref (md 27), .ref (md 28), .ref (md 29), .ref (md 30), .ref (md 31), .ref (md 32), .ref (md 33), .ref (md 34), .ref (md 35), .int 0, .int 0, .int 0, .int 0, .int 0, .int 0, .int 0, .int 0, .int (-1), .int 0, .int 0, .ref (md 47), .ref (md 48), .ref (md 49), .ref (md 50)])), (ou, .inl (co, 1, .inr (.inl g_3)))] := hD
  have hK : va_K (dC, dI) vwCl [(co, .long)] s := hK
  refine W.eq (g2 := F0 m 705 ls [.int k_2]) rfl ?_
  refine lv_istore (lv' := [(5, .int k_2), (4, .int 0), (3, .ref ou), (2, .ref m0), (1, .ref x0), (0, .ref b)]) hx hb dL_law_705 hl (by decide) rfl (fun ls hl => ?_)
  refine lv_aload_n hx hb dL_law_707 rfl (lv_at hl 3 rfl) ?_
  refine lv_aload_n hx hb dL_law_708 rfl (lv_at hl 5 rfl) ?_
  refine lv_iload hx hb dL_law_709 (lv_at hl 1 rfl) ?_
  refine lv_iconst (v := 1) hx hb dL_law_711 (by decide) ?_
  refine lv_iadd hx hb dL_law_712 ?_
  refine lv_topi (fun z_5 ez_5 => ?_)
  obtain rfl : z_5 = 1 := ez_5.trans (by decide)
  refine va_sld hx hb hX hbl hbA hS (by unfold vp_in; decide) dL_law_713 ?_
  refine W.eq (g2 := F0 m 714 ls [.int (xs 1), .ref m0]) rfl ?_
  refine go_V (wr := [(ou, .inl (co, 1, .inr (.inl g_3)))]) ⟨hx, hb, hml, hown, hts⟩ (c_X10_fault l dC dI sa hlt _ m0 md mq (xs 1) ) (cwV 1 hts gL_law_X10_fault rfl rfl rfl (by decide +kernel) ⟨Nat.le_of_ble_eq_true rfl, Nat.le_of_ble_eq_true rfl⟩) hP hD hK hS hA hev [0] [1] [] rfl rfl rfl rfl (by decide) rfl 0 10 rfl rfl rfl rfl hl.1 rfl (Nat.le_of_ble_eq_true rfl) dL_law_714 ⟨Nat.le_of_ble_eq_true rfl, Nat.le_of_ble_eq_true rfl⟩ (fun r u H locs hw hP hD hK hS => ?_)
  obtain ⟨x_6, J_7⟩ := u
  have hw : r = some (.int x_6) ∧ (E_fault (xs 1) = (J_7 0, x_6)) := hw
  obtain ⟨rfl, hw_8⟩ := hw
  have hP : va_P (dC, dI) vwCl [(ou, .inl (co, 1, .inr (.inl g_3))), (m0, .inr (10, [.int (J_7 0), .int (J_7 1), .int (J_7 2), .int (J_7 3), .ref (md 4), .ref (md 5), .ref (md 6), .ref (md 7), .ref (md 8), .ref (md 9), .ref (md 10), .ref (md 11), .int (J_7 12), .ref (md 13), .ref (md 14), .ref (md 15), .ref (md 16), .ref (md 17), .ref (md 18), .ref (md 19), .int (J_7 20), .int (J_7 21), .int (J_7 22), .int (J_7 23), .int (J_7 24), .int (J_7 25), .ref (md 26), .ref (md 27), .ref (md 28), .ref (md 29), .ref (md 30), .ref (md 31), .ref (md 32), .ref (md 33), .ref (md 34), .ref (md 35), .int (J_7 36), .int (J_7 37), .int (J_7 38), .int (J_7 39), .int (J_7 40), .int (J_7 41), .int (J_7 42), .int (J_7 43), .int (J_7 44), .int (J_7 45), .int (J_7 46), .ref (md 47), .ref (md 48), .ref (md 49), .ref (md 50)]))] _ := hP
  have hD : va_D _ [(ou, .inl (co, 1, .inr (.inl g_3))), (m0, .inr (10, [.int (J_7 0), .int (J_7 1), .int (J_7 2), .int (J_7 3), .ref (md 4), .ref (md 5), .ref (md 6), .ref (md 7), .ref (md 8), .ref (md 9), .ref (md 10), .ref (md 11), .int (J_7 12), .ref (md 13), .ref (md 14), .ref (md 15), .ref (md 16), .ref (md 17), .ref (md 18), .ref (md 19), .int (J_7 20), .int (J_7 21), .int (J_7 22), .int (J_7 23), .int (J_7 24), .int (J_7 25), .ref (md 26), .ref (md 27), .ref (md 28), .ref (md 29), .ref (md 30), .ref (md 31), .ref (md 32), .ref (md 33), .ref (md 34), .ref (md 35), .int (J_7 36), .int (J_7 37), .int (J_7 38), .int (J_7 39), .int (J_7 40), .int (J_7 41), .int (J_7 42), .int (J_7 43), .int (J_7 44), .int (J_7 45), .int (J_7 46), .ref (md 47), .ref (md 48), .ref (md 49), .ref (md 50)]))] := hD
  have hK : va_K (dC, dI) vwCl [(co, .long)] s := hK
  refine W.eq (g2 := F0 m 717 ls [.int x_6]) rfl ?_
  obtain ⟨y9, hE1, hE2⟩ := hw_4
  obtain ⟨hk9, hy9⟩ := Prod.mk.inj (hE1.symm.trans hw_8)
  refine lv_istore (lv' := [(6, .int x_6), (5, .int k_2), (4, .int 0), (3, .ref ou), (2, .ref m0), (1, .ref x0), (0, .ref b)]) hx hb dL_law_717 hl (by decide) rfl (fun ls hl => ?_)
  refine lv_aload_n hx hb dL_law_719 rfl (lv_at hl 4 rfl) ?_
  refine go_V (wr := [(ou, .inl (co, 1, .inr (.inl g_3)))]) ⟨hx, hb, hml, hown, hts⟩ (c_X10_thrown l dC dI sa hlt _ m0 md J_7 ) (cwV 0 hts gL_law_X10_thrown rfl rfl rfl (by decide +kernel) ⟨Nat.le_of_ble_eq_true rfl, Nat.le_of_ble_eq_true rfl⟩) hP hD hK hS hA hev [1] [0] [] rfl rfl rfl rfl (by decide) rfl 1 10 rfl rfl rfl rfl hl.1 rfl (Nat.le_of_ble_eq_true rfl) dL_law_720 ⟨Nat.le_of_ble_eq_true rfl, Nat.le_of_ble_eq_true rfl⟩ (fun r u H locs hw hP hD hK hS => ?_)
  have hw : r = some (.int (J_7 0)) ∧ (True) := hw
  obtain ⟨rfl, hw_9⟩ := hw
  have hP : va_P (dC, dI) vwCl [(ou, .inl (co, 1, .inr (.inl g_3))), (m0, .inr (10, [.int (J_7 0), .int (J_7 1), .int (J_7 2), .int (J_7 3), .ref (md 4), .ref (md 5), .ref (md 6), .ref (md 7), .ref (md 8), .ref (md 9), .ref (md 10), .ref (md 11), .int (J_7 12), .ref (md 13), .ref (md 14), .ref (md 15), .ref (md 16), .ref (md 17), .ref (md 18), .ref (md 19), .int (J_7 20), .int (J_7 21), .int (J_7 22), .int (J_7 23), .int (J_7 24), .int (J_7 25), .ref (md 26), .ref (md 27), .ref (md 28), .ref (md 29), .ref (md 30), .ref (md 31), .ref (md 32), .ref (md 33), .ref (md 34), .ref (md 35), .int (J_7 36), .int (J_7 37), .int (J_7 38), .int (J_7 39), .int (J_7 40), .int (J_7 41), .int (J_7 42), .int (J_7 43), .int (J_7 44), .int (J_7 45), .int (J_7 46), .ref (md 47), .ref (md 48), .ref (md 49), .ref (md 50)]))] _ := hP
  have hD : va_D _ [(ou, .inl (co, 1, .inr (.inl g_3))), (m0, .inr (10, [.int (J_7 0), .int (J_7 1), .int (J_7 2), .int (J_7 3), .ref (md 4), .ref (md 5), .ref (md 6), .ref (md 7), .ref (md 8), .ref (md 9), .ref (md 10), .ref (md 11), .int (J_7 12), .ref (md 13), .ref (md 14), .ref (md 15), .ref (md 16), .ref (md 17), .ref (md 18), .ref (md 19), .int (J_7 20), .int (J_7 21), .int (J_7 22), .int (J_7 23), .int (J_7 24), .int (J_7 25), .ref (md 26), .ref (md 27), .ref (md 28), .ref (md 29), .ref (md 30), .ref (md 31), .ref (md 32), .ref (md 33), .ref (md 34), .ref (md 35), .int (J_7 36), .int (J_7 37), .int (J_7 38), .int (J_7 39), .int (J_7 40), .int (J_7 41), .int (J_7 42), .int (J_7 43), .int (J_7 44), .int (J_7 45), .int (J_7 46), .ref (md 47), .ref (md 48), .ref (md 49), .ref (md 50)]))] := hD
  have hK : va_K (dC, dI) vwCl [(co, .long)] s := hK
  refine W.eq (g2 := F0 m 723 ls [.int (J_7 0)]) rfl ?_
  refine lv_iload hx hb dL_law_723 (lv_at hl 1 rfl) ?_
  refine lv_icmp_eq (tgt := 730) hx hb dL_law_725 (by decide) (fun c_10 => ?_) (fun c_10 => ?_)
  rotate_left
  · exact absurd c_10 (fun h => h hk9.symm)
  refine lv_iload hx hb dL_law_730 (lv_at hl 1 rfl) ?_
  refine lv_if_ne (tgt := 747) hx hb dL_law_732 (by decide) (fun c_11 => ?_) (fun c_11 => ?_)
  · refine lv_goto (tgt := 1386) hx hb dL_law_747 (by decide) ?_
    exact law_end (dC := dC) (dI := dI) hlt C0 hev hS (Nat.le_of_ble_eq_true rfl) (Nat.le_of_ble_eq_true rfl) (lv_sub hl [2, 6] rfl)
  · refine lv_aload_n hx hb dL_law_735 rfl (lv_at hl 3 rfl) ?_
    refine lv_iconst (v := 0) hx hb dL_law_736 (by decide) ?_
    refine va_lald hx hb hK hP 0 0 rfl rfl (by unfold vp_in; decide) dL_law_737 ?_
    refine lv_iload hx hb dL_law_738 (lv_at hl 0 rfl) ?_
    refine lv_i2l (v := (x_6).toInt64) hx hb dL_law_740 rfl ?_
    refine W.lcmp hx hb dL_law_741 ?_
    refine lv_topi (fun z_12 ez_12 => ?_)
    refine lv_if_eq (tgt := 747) hx hb dL_law_742 (by decide) (fun c_13 => ?_) (fun c_13 => ?_)
    rotate_left
    · exact absurd c_13 (fun h => h (ez_12.trans (lgc ((hE2 c_11).trans (by rw [hy9])))))
    refine lv_goto (tgt := 1386) hx hb dL_law_747 (by decide) ?_
    exact law_end (dC := dC) (dI := dI) hlt C0 hev hS (Nat.le_of_ble_eq_true rfl) (Nat.le_of_ble_eq_true rfl) (lv_sub hl [2, 6] rfl)

set_option maxHeartbeats 4000000 in
set_option maxRecDepth 100000 in
theorem law_run {p : Program} {l : Launch} {e : Env} {s : State} {m : MethodId} {below : List Frame} {meth : Method} {c : Code} {b : Nat} {xs : Nat → Int32} (hlt : l.stackTraces = false) (C0 : lw_At p s m meth c b 6 xs) {dC : Nat → ClassId} {dI : Nat → Nat → Nat} {sa : Nat → Nat} (hev : ev sa (fun q : Nat => s.heap.size ≤ q) s s.heap) {H : Heap} {locs : List Loc} {ls : Array Slot} {x0 m0 ou : Nat} {co : ClassId} {ad : Nat → Nat} {md : Nat → Nat} (hK : va_K (dC, dI) vwCl [(co, .long)] s) (hP : va_P (dC, dI) vwCl [(x0, .inr (9, [.ref (ad 0), .ref (ad 8), .int 0, .int 0, .ref (ad 9), .int 0, .ref (ad 10), .ref (ad 15), .int 0, .ref (ad 16), .ref (ad 17)])), (m0, .inr (10, [.int 0, .int 0, .int 0, .int 0, .ref (md 4), .ref (md 5), .ref (md 6), .ref (md 7), .ref (md 8), .ref (md 9), .ref (md 10), .ref (md 11), .int 0, .ref (md 13), .ref (md 14), .ref (md 15), .ref (md 16), .ref (md 17), .ref (md 18), .ref (md 19), .int 0, .int 0, .int 0, .int 0, .int (-1), .int 0, .ref (md 26), .ref (md 27), .ref (md 28), .ref (md 29), .ref (md 30), .ref (md 31), .ref (md 32), .ref (md 33), .ref (md 34), .ref (md 35), .int 0, .int 0, .int 0, .int 0, .int 0, .int 0, .int 0, .int 0, .int (-1), .int 0, .int 0, .ref (md 47), .ref (md 48), .ref (md 49), .ref (md 50)])), (ou, .inl (co, 1, .inr (.inl (fun _ => 0))))] H) (hD : va_D (fun q : Nat => s.heap.size ≤ q) [(x0, .inr (9, [.ref (ad 0), .ref (ad 8), .int 0, .int 0, .ref (ad 9), .int 0, .ref (ad 10), .ref (ad 15), .int 0, .ref (ad 16), .ref (ad 17)])), (m0, .inr (10, [.int 0, .int 0, .int 0, .int 0, .ref (md 4), .ref (md 5), .ref (md 6), .ref (md 7), .ref (md 8), .ref (md 9), .ref (md 10), .ref (md 11), .int 0, .ref (md 13), .ref (md 14), .ref (md 15), .ref (md 16), .ref (md 17), .ref (md 18), .ref (md 19), .int 0, .int 0, .int 0, .int 0, .int (-1), .int 0, .ref (md 26), .ref (md 27), .ref (md 28), .ref (md 29), .ref (md 30), .ref (md 31), .ref (md 32), .ref (md 33), .ref (md 34), .ref (md 35), .int 0, .int 0, .int 0, .int 0, .int 0, .int 0, .int 0, .int 0, .int (-1), .int 0, .int 0, .ref (md 47), .ref (md 48), .ref (md 49), .ref (md 50)])), (ou, .inl (co, 1, .inr (.inl (fun _ => 0))))]) (hS : va_S (fun q : Nat => s.heap.size ≤ q) s.heap H locs) (hl : lv_has ls 7 [(4, .int 0), (3, .ref ou), (2, .ref m0), (1, .ref x0), (0, .ref b)]) : W p l e room_1 s m #[Value.ref b] below meth c H locs 61 29719 (lw_Z below #[Value.ref b] s) (F0 m 750 ls []) := by
  obtain ⟨hx, hb, hr, hml, hown, hts, hX, hbl, hlocks, hgv⟩ := id C0
  have hown : s.vm.findClass RL = some m.cls := hown
  have hA : ∀ q : Nat, s.heap.size ≤ q → (fun q : Nat => s.heap.size ≤ q) q := fun _ h => h
  have hbA : ¬ (fun q : Nat => s.heap.size ≤ q) b := Nat.not_le.mpr hbl
  refine lv_aload_n hx hb dL_law_750 rfl (lv_at hl 3 rfl) ?_
  refine lv_aload_n hx hb dL_law_751 rfl (lv_at hl 4 rfl) ?_
  refine lv_iload hx hb dL_law_752 (lv_at hl 0 rfl) ?_
  refine lv_iconst (v := 1) hx hb dL_law_754 (by decide) ?_
  refine lv_iadd hx hb dL_law_755 ?_
  refine lv_topi (fun z_1 ez_1 => ?_)
  obtain rfl : z_1 = 1 := ez_1.trans (by decide)
  refine va_sld hx hb hX hbl hbA hS (by unfold vp_in; decide) dL_law_756 ?_
  refine W.eq (g2 := F0 m 757 ls [.int (xs 1), .ref x0]) rfl ?_
  refine lv_aload_n hx hb dL_law_757 rfl (lv_at hl 4 rfl) ?_
  refine lv_iload hx hb dL_law_758 (lv_at hl 0 rfl) ?_
  refine lv_iconst (v := 2) hx hb dL_law_760 (by decide) ?_
  refine lv_iadd hx hb dL_law_761 ?_
  refine lv_topi (fun z_2 ez_2 => ?_)
  obtain rfl : z_2 = 2 := ez_2.trans (by decide)
  refine va_sld hx hb hX hbl hbA hS (by unfold vp_in; decide) dL_law_762 ?_
  refine W.eq (g2 := F0 m 763 ls [.int (xs 2), .int (xs 1), .ref x0]) rfl ?_
  refine lv_aload_n hx hb dL_law_763 rfl (lv_at hl 4 rfl) ?_
  refine lv_iload hx hb dL_law_764 (lv_at hl 0 rfl) ?_
  refine lv_iconst (v := 3) hx hb dL_law_766 (by decide) ?_
  refine lv_iadd hx hb dL_law_767 ?_
  refine lv_topi (fun z_3 ez_3 => ?_)
  obtain rfl : z_3 = 3 := ez_3.trans (by decide)
  refine va_sld hx hb hX hbl hbA hS (by unfold vp_in; decide) dL_law_768 ?_
  refine W.eq (g2 := F0 m 769 ls [.int (xs 3), .int (xs 2), .int (xs 1), .ref x0]) rfl ?_
  refine lv_aload_n hx hb dL_law_769 rfl (lv_at hl 1 rfl) ?_
  refine go_SW (wr := [(m0, .inr (10, [.int 0, .int 0, .int 0, .int 0, .ref (md 4), .ref (md 5), .ref (md 6), .ref (md 7), .ref (md 8), .ref (md 9), .ref (md 10), .ref (md 11), .int 0, .ref (md 13), .ref (md 14), .ref (md 15), .ref (md 16), .ref (md 17), .ref (md 18), .ref (md 19), .int 0, .int 0, .int 0, .int 0, .int (-1), .int 0, .ref (md 26), .ref (md 27), .ref (md 28), .ref (md 29), .ref (md 30), .ref (md 31), .ref (md 32), .ref (md 33), .ref (md 34), .ref (md 35), .int 0, .int 0, .int 0, .int 0, .int 0, .int 0, .int 0, .int 0, .int (-1), .int 0, .int 0, .ref (md 47), .ref (md 48), .ref (md 49), .ref (md 50)]))]) ⟨hx, hb, hml, hown, hts⟩ (c_L_run l dC dI sa hlt _ x0 ad ou co (fun _ => 0) (xs 1) (xs 2) (xs 3) ) (vx_cwSW 5 hts gL_law_L_run rfl rfl rfl (by decide +kernel) ⟨Nat.le_of_ble_eq_true rfl, Nat.le_of_ble_eq_true rfl⟩) hP hD hK hS hA hev [0, 2] [1] [0] rfl rfl rfl rfl (by decide) rfl rfl hl.1 rfl (Nat.le_of_ble_eq_true rfl) dL_law_770 ⟨Nat.le_of_ble_eq_true rfl, Nat.le_of_ble_eq_true rfl⟩ (fun r u H locs hw hP hD hK hS => ?_)
  obtain ⟨k_4, g_5⟩ := u
  have hw : r = some (.int k_4) ∧ (k_4 = 1) := hw
  obtain ⟨rfl, hw_6⟩ := hw
  have hP : va_P (dC, dI) vwCl [(m0, .inr (10, [.int 0, .int 0, .int 0, .int 0, .ref (md 4), .ref (md 5), .ref (md 6), .ref (md 7), .ref (md 8), .ref (md 9), .ref (md 10), .ref (md 11), .int 0, .ref (md 13), .ref (md 14), .ref (md 15), .ref (md 16), .ref (md 17), .ref (md 18), .ref (md 19), .int 0, .int 0, .int 0, .int 0, .int (-1), .int 0, .ref (md 26), .ref (md 27), .ref (md 28), .ref (md 29), .ref (md 30), .ref (md 31), .ref (md 32), .ref (md 33), .ref (md 34), .ref (md 35), .int 0, .int 0, .int 0, .int 0, .int 0, .int 0, .int 0, .int 0, .int (-1), .int 0, .int 0, .ref (md 47), .ref (md 48), .ref (md 49), .ref (md 50)])), (ou, .inl (co, 1, .inr (.inl g_5)))] _ := hP
  have hD : va_D _ [(m0, .inr (10, [.int 0, .int 0, .int 0, .int 0, .ref (md 4), .ref (md 5), .ref (md 6), .ref (md 7), .ref (md 8), .ref (md 9), .ref (md 10), .ref (md 11), .int 0, .ref (md 13), .ref (md 14), .ref (md 15), .ref (md 16), .ref (md 17), .ref (md 18), .ref (md 19), .int 0, .int 0, .int 0, .int 0, .int (-1), .int 0, .ref (md 26), .ref (md 27), .ref (md 28), .ref (md 29), .ref (md 30), .ref (md 31), .ref (md 32), .ref (md 33), .ref (md 34), .ref (md 35), .int 0, .int 0, .int 0, .int 0, .int 0, .int 0, .int 0, .int 0, .int (-1), .int 0, .int 0, .ref (md 47), .ref (md 48), .ref (md 49), .ref (md 50)])), (ou, .inl (co, 1, .inr (.inl g_5)))] := hD
  have hK : va_K (dC, dI) vwCl [(co, .long)] s := hK
  refine W.eq (g2 := F0 m 773 ls [.int k_4]) rfl ?_
  refine lv_istore (lv' := [(5, .int k_4), (4, .int 0), (3, .ref ou), (2, .ref m0), (1, .ref x0), (0, .ref b)]) hx hb dL_law_773 hl (by decide) rfl (fun ls hl => ?_)
  refine lv_aload_n hx hb dL_law_775 rfl (lv_at hl 3 rfl) ?_
  refine lv_aload_n hx hb dL_law_776 rfl (lv_at hl 5 rfl) ?_
  refine lv_iload hx hb dL_law_777 (lv_at hl 1 rfl) ?_
  refine lv_iconst (v := 1) hx hb dL_law_779 (by decide) ?_
  refine lv_iadd hx hb dL_law_780 ?_
  refine lv_topi (fun z_7 ez_7 => ?_)
  obtain rfl : z_7 = 1 := ez_7.trans (by decide)
  refine va_sld hx hb hX hbl hbA hS (by unfold vp_in; decide) dL_law_781 ?_
  refine W.eq (g2 := F0 m 782 ls [.int (xs 1), .ref m0]) rfl ?_
  refine lv_aload_n hx hb dL_law_782 rfl (lv_at hl 5 rfl) ?_
  refine lv_iload hx hb dL_law_783 (lv_at hl 1 rfl) ?_
  refine lv_iconst (v := 2) hx hb dL_law_785 (by decide) ?_
  refine lv_iadd hx hb dL_law_786 ?_
  refine lv_topi (fun z_8 ez_8 => ?_)
  obtain rfl : z_8 = 2 := ez_8.trans (by decide)
  refine va_sld hx hb hX hbl hbA hS (by unfold vp_in; decide) dL_law_787 ?_
  refine W.eq (g2 := F0 m 788 ls [.int (xs 2), .int (xs 1), .ref m0]) rfl ?_
  refine lv_aload_n hx hb dL_law_788 rfl (lv_at hl 5 rfl) ?_
  refine lv_iload hx hb dL_law_789 (lv_at hl 1 rfl) ?_
  refine lv_iconst (v := 3) hx hb dL_law_791 (by decide) ?_
  refine lv_iadd hx hb dL_law_792 ?_
  refine lv_topi (fun z_9 ez_9 => ?_)
  obtain rfl : z_9 = 3 := ez_9.trans (by decide)
  refine va_sld hx hb hX hbl hbA hS (by unfold vp_in; decide) dL_law_793 ?_
  refine W.eq (g2 := F0 m 794 ls [.int (xs 3), .int (xs 2), .int (xs 1), .ref m0]) rfl ?_
  refine go_V (wr := [(ou, .inl (co, 1, .inr (.inl g_5)))]) ⟨hx, hb, hml, hown, hts⟩ (c_X10_run l dC dI sa hlt _ m0 md (xs 1) (xs 2) (xs 3) ) (cwV 3 hts gL_law_X10_run rfl rfl rfl (by decide +kernel) ⟨Nat.le_of_ble_eq_true rfl, Nat.le_of_ble_eq_true rfl⟩) hP hD hK hS hA hev [0] [1] [] rfl rfl rfl rfl (by decide) rfl 0 10 rfl rfl rfl rfl hl.1 rfl (Nat.le_of_ble_eq_true rfl) dL_law_794 ⟨Nat.le_of_ble_eq_true rfl, Nat.le_of_ble_eq_true rfl⟩ (fun r u H locs hw hP hD hK hS => ?_)
  obtain ⟨x_10, J_11⟩ := u
  have hw : r = some (.int x_10) ∧ (J_11 0 = 1) := hw
  obtain ⟨rfl, hw_12⟩ := hw
  have hP : va_P (dC, dI) vwCl [(ou, .inl (co, 1, .inr (.inl g_5))), (m0, .inr (10, [.int (J_11 0), .int (J_11 1), .int (J_11 2), .int (J_11 3), .ref (md 4), .ref (md 5), .ref (md 6), .ref (md 7), .ref (md 8), .ref (md 9), .ref (md 10), .ref (md 11), .int (J_11 12), .ref (md 13), .ref (md 14), .ref (md 15), .ref (md 16), .ref (md 17), .ref (md 18), .ref (md 19), .int (J_11 20), .int (J_11 21), .int (J_11 22), .int (J_11 23), .int (J_11 24), .int (J_11 25), .ref (md 26), .ref (md 27), .ref (md 28), .ref (md 29), .ref (md 30), .ref (md 31), .ref (md 32), .ref (md 33), .ref (md 34), .ref (md 35), .int (J_11 36), .int (J_11 37), .int (J_11 38), .int (J_11 39), .int (J_11 40), .int (J_11 41), .int (J_11 42), .int (J_11 43), .int (J_11 44), .int (J_11 45), .int (J_11 46), .ref (md 47), .ref (md 48), .ref (md 49), .ref (md 50)]))] _ := hP
  have hD : va_D _ [(ou, .inl (co, 1, .inr (.inl g_5))), (m0, .inr (10, [.int (J_11 0), .int (J_11 1), .int (J_11 2), .int (J_11 3), .ref (md 4), .ref (md 5), .ref (md 6), .ref (md 7), .ref (md 8), .ref (md 9), .ref (md 10), .ref (md 11), .int (J_11 12), .ref (md 13), .ref (md 14), .ref (md 15), .ref (md 16), .ref (md 17), .ref (md 18), .ref (md 19), .int (J_11 20), .int (J_11 21), .int (J_11 22), .int (J_11 23), .int (J_11 24), .int (J_11 25), .ref (md 26), .ref (md 27), .ref (md 28), .ref (md 29), .ref (md 30), .ref (md 31), .ref (md 32), .ref (md 33), .ref (md 34), .ref (md 35), .int (J_11 36), .int (J_11 37), .int (J_11 38), .int (J_11 39), .int (J_11 40), .int (J_11 41), .int (J_11 42), .int (J_11 43), .int (J_11 44), .int (J_11 45), .int (J_11 46), .ref (md 47), .ref (md 48), .ref (md 49), .ref (md 50)]))] := hD
  have hK : va_K (dC, dI) vwCl [(co, .long)] s := hK
  refine W.eq (g2 := F0 m 797 ls [.int x_10]) rfl ?_
  have hk9 := hw_6.trans hw_12.symm
  refine lv_istore (lv' := [(6, .int x_10), (5, .int k_4), (4, .int 0), (3, .ref ou), (2, .ref m0), (1, .ref x0), (0, .ref b)]) hx hb dL_law_797 hl (by decide) rfl (fun ls hl => ?_)
  refine lv_aload_n hx hb dL_law_799 rfl (lv_at hl 4 rfl) ?_
  refine go_V (wr := [(ou, .inl (co, 1, .inr (.inl g_5)))]) ⟨hx, hb, hml, hown, hts⟩ (c_X10_thrown l dC dI sa hlt _ m0 md J_11 ) (cwV 0 hts gL_law_X10_thrown rfl rfl rfl (by decide +kernel) ⟨Nat.le_of_ble_eq_true rfl, Nat.le_of_ble_eq_true rfl⟩) hP hD hK hS hA hev [1] [0] [] rfl rfl rfl rfl (by decide) rfl 1 10 rfl rfl rfl rfl hl.1 rfl (Nat.le_of_ble_eq_true rfl) dL_law_800 ⟨Nat.le_of_ble_eq_true rfl, Nat.le_of_ble_eq_true rfl⟩ (fun r u H locs hw hP hD hK hS => ?_)
  have hw : r = some (.int (J_11 0)) ∧ (True) := hw
  obtain ⟨rfl, hw_13⟩ := hw
  have hP : va_P (dC, dI) vwCl [(ou, .inl (co, 1, .inr (.inl g_5))), (m0, .inr (10, [.int (J_11 0), .int (J_11 1), .int (J_11 2), .int (J_11 3), .ref (md 4), .ref (md 5), .ref (md 6), .ref (md 7), .ref (md 8), .ref (md 9), .ref (md 10), .ref (md 11), .int (J_11 12), .ref (md 13), .ref (md 14), .ref (md 15), .ref (md 16), .ref (md 17), .ref (md 18), .ref (md 19), .int (J_11 20), .int (J_11 21), .int (J_11 22), .int (J_11 23), .int (J_11 24), .int (J_11 25), .ref (md 26), .ref (md 27), .ref (md 28), .ref (md 29), .ref (md 30), .ref (md 31), .ref (md 32), .ref (md 33), .ref (md 34), .ref (md 35), .int (J_11 36), .int (J_11 37), .int (J_11 38), .int (J_11 39), .int (J_11 40), .int (J_11 41), .int (J_11 42), .int (J_11 43), .int (J_11 44), .int (J_11 45), .int (J_11 46), .ref (md 47), .ref (md 48), .ref (md 49), .ref (md 50)]))] _ := hP
  have hD : va_D _ [(ou, .inl (co, 1, .inr (.inl g_5))), (m0, .inr (10, [.int (J_11 0), .int (J_11 1), .int (J_11 2), .int (J_11 3), .ref (md 4), .ref (md 5), .ref (md 6), .ref (md 7), .ref (md 8), .ref (md 9), .ref (md 10), .ref (md 11), .int (J_11 12), .ref (md 13), .ref (md 14), .ref (md 15), .ref (md 16), .ref (md 17), .ref (md 18), .ref (md 19), .int (J_11 20), .int (J_11 21), .int (J_11 22), .int (J_11 23), .int (J_11 24), .int (J_11 25), .ref (md 26), .ref (md 27), .ref (md 28), .ref (md 29), .ref (md 30), .ref (md 31), .ref (md 32), .ref (md 33), .ref (md 34), .ref (md 35), .int (J_11 36), .int (J_11 37), .int (J_11 38), .int (J_11 39), .int (J_11 40), .int (J_11 41), .int (J_11 42), .int (J_11 43), .int (J_11 44), .int (J_11 45), .int (J_11 46), .ref (md 47), .ref (md 48), .ref (md 49), .ref (md 50)]))] := hD
  have hK : va_K (dC, dI) vwCl [(co, .long)] s := hK
  refine W.eq (g2 := F0 m 803 ls [.int (J_11 0)]) rfl ?_
  refine lv_iload hx hb dL_law_803 (lv_at hl 1 rfl) ?_
  refine lv_icmp_eq (tgt := 810) hx hb dL_law_805 (by decide) (fun c_14 => ?_) (fun c_14 => ?_)
  rotate_left
  · exact absurd c_14 (fun h => h hk9.symm)
  refine lv_iload hx hb dL_law_810 (lv_at hl 1 rfl) ?_
  refine lv_if_ne (tgt := 827) hx hb dL_law_812 (by decide) (fun c_15 => ?_) (fun c_15 => ?_)
  rotate_left
  · exact absurd c_15 (by rw [hw_6]; decide)
  refine lv_goto (tgt := 1386) hx hb dL_law_827 (by decide) ?_
  exact law_end (dC := dC) (dI := dI) hlt C0 hev hS (Nat.le_of_ble_eq_true rfl) (Nat.le_of_ble_eq_true rfl) (lv_sub hl [2, 6] rfl)

set_option maxHeartbeats 4000000 in
set_option maxRecDepth 100000 in
theorem law_ran {p : Program} {l : Launch} {e : Env} {s : State} {m : MethodId} {below : List Frame} {meth : Method} {c : Code} {b : Nat} {xs : Nat → Int32} (hlt : l.stackTraces = false) (C0 : lw_At p s m meth c b 6 xs) {dC : Nat → ClassId} {dI : Nat → Nat → Nat} {sa : Nat → Nat} (hev : ev sa (fun q : Nat => s.heap.size ≤ q) s s.heap) {H : Heap} {locs : List Loc} {ls : Array Slot} {x0 m0 ou : Nat} {co : ClassId} {ad : Nat → Nat} {md : Nat → Nat} {mq : Nat → ClassId} (hK : va_K (dC, dI) vwCl [(co, .long)] s) (hP : va_P (dC, dI) vwCl [(x0, .inr (9, [.ref (ad 0), .ref (ad 8), .int 0, .int 0, .ref (ad 9), .int 0, .ref (ad 10), .ref (ad 15), .int 0, .ref (ad 16), .ref (ad 17)])), ((ad 16), .inr (4, [.ref (ad 0), .int 0, .int (-1), .int 0, .int 0, .int 0, .int 0, .int 0])), (m0, .inr (10, [.int 0, .int 0, .int 0, .int 0, .ref (md 4), .ref (md 5), .ref (md 6), .ref (md 7), .ref (md 8), .ref (md 9), .ref (md 10), .ref (md 11), .int 0, .ref (md 13), .ref (md 14), .ref (md 15), .ref (md 16), .ref (md 17), .ref (md 18), .ref (md 19), .int 0, .int 0, .int 0, .int 0, .int (-1), .int 0, .ref (md 26), .ref (md 27), .ref (md 28), .ref (md 29), .ref (md 30), .ref (md 31), .ref (md 32), .ref (md 33), .ref (md 34), .ref (md 35), .int 0, .int 0, .int 0, .int 0, .int 0, .int 0, .int 0, .int 0, .int (-1), .int 0, .int 0, .ref (md 47), .ref (md 48), .ref (md 49), .ref (md 50)])), (ou, .inl (co, 1, .inr (.inl (fun _ => 0))))] H) (hD : va_D (fun q : Nat => s.heap.size ≤ q) [(x0, .inr (9, [.ref (ad 0), .ref (ad 8), .int 0, .int 0, .ref (ad 9), .int 0, .ref (ad 10), .ref (ad 15), .int 0, .ref (ad 16), .ref (ad 17)])), ((ad 16), .inr (4, [.ref (ad 0), .int 0, .int (-1), .int 0, .int 0, .int 0, .int 0, .int 0])), (m0, .inr (10, [.int 0, .int 0, .int 0, .int 0, .ref (md 4), .ref (md 5), .ref (md 6), .ref (md 7), .ref (md 8), .ref (md 9), .ref (md 10), .ref (md 11), .int 0, .ref (md 13), .ref (md 14), .ref (md 15), .ref (md 16), .ref (md 17), .ref (md 18), .ref (md 19), .int 0, .int 0, .int 0, .int 0, .int (-1), .int 0, .ref (md 26), .ref (md 27), .ref (md 28), .ref (md 29), .ref (md 30), .ref (md 31), .ref (md 32), .ref (md 33), .ref (md 34), .ref (md 35), .int 0, .int 0, .int 0, .int 0, .int 0, .int 0, .int 0, .int 0, .int (-1), .int 0, .int 0, .ref (md 47), .ref (md 48), .ref (md 49), .ref (md 50)])), (ou, .inl (co, 1, .inr (.inl (fun _ => 0))))]) (hS : va_S (fun q : Nat => s.heap.size ≤ q) s.heap H locs) (hl : lv_has ls 7 [(4, .int 0), (3, .ref ou), (2, .ref m0), (1, .ref x0), (0, .ref b)]) : W p l e room_1 s m #[Value.ref b] below meth c H locs 61 29719 (lw_Z below #[Value.ref b] s) (F0 m 830 ls []) := by
  obtain ⟨hx, hb, hr, hml, hown, hts, hX, hbl, hlocks, hgv⟩ := id C0
  have hown : s.vm.findClass RL = some m.cls := hown
  have hA : ∀ q : Nat, s.heap.size ≤ q → (fun q : Nat => s.heap.size ≤ q) q := fun _ h => h
  have hbA : ¬ (fun q : Nat => s.heap.size ≤ q) b := Nat.not_le.mpr hbl
  refine lv_aload_n hx hb dL_law_830 rfl (lv_at hl 3 rfl) ?_
  refine lv_aload_n hx hb dL_law_831 rfl (lv_at hl 4 rfl) ?_
  refine lv_iload hx hb dL_law_832 (lv_at hl 0 rfl) ?_
  refine lv_iconst (v := 1) hx hb dL_law_834 (by decide) ?_
  refine lv_iadd hx hb dL_law_835 ?_
  refine lv_topi (fun z_1 ez_1 => ?_)
  obtain rfl : z_1 = 1 := ez_1.trans (by decide)
  refine va_sld hx hb hX hbl hbA hS (by unfold vp_in; decide) dL_law_836 ?_
  refine W.eq (g2 := F0 m 837 ls [.int (xs 1), .ref x0]) rfl ?_
  refine lv_aload_n hx hb dL_law_837 rfl (lv_at hl 1 rfl) ?_
  refine go_SW (wr := [(m0, .inr (10, [.int 0, .int 0, .int 0, .int 0, .ref (md 4), .ref (md 5), .ref (md 6), .ref (md 7), .ref (md 8), .ref (md 9), .ref (md 10), .ref (md 11), .int 0, .ref (md 13), .ref (md 14), .ref (md 15), .ref (md 16), .ref (md 17), .ref (md 18), .ref (md 19), .int 0, .int 0, .int 0, .int 0, .int (-1), .int 0, .ref (md 26), .ref (md 27), .ref (md 28), .ref (md 29), .ref (md 30), .ref (md 31), .ref (md 32), .ref (md 33), .ref (md 34), .ref (md 35), .int 0, .int 0, .int 0, .int 0, .int 0, .int 0, .int 0, .int 0, .int (-1), .int 0, .int 0, .ref (md 47), .ref (md 48), .ref (md 49), .ref (md 50)]))]) ⟨hx, hb, hml, hown, hts⟩ (c_L_ran l dC dI sa hlt _ x0 ad ou co (fun _ => 0) (xs 1) ) (vx_cwSW 3 hts gL_law_L_ran rfl rfl rfl (by decide +kernel) ⟨Nat.le_of_ble_eq_true rfl, Nat.le_of_ble_eq_true rfl⟩) hP hD hK hS hA hev [0, 1, 3] [2] [0] rfl rfl rfl rfl (by decide) rfl rfl hl.1 rfl (Nat.le_of_ble_eq_true rfl) dL_law_838 ⟨Nat.le_of_ble_eq_true rfl, Nat.le_of_ble_eq_true rfl⟩ (fun r u H locs hw hP hD hK hS => ?_)
  obtain ⟨k_2, g_3⟩ := u
  have hw : r = some (.int k_2) ∧ (∃ y : Int32, E_ran (xs 1) = (k_2, y) ∧ (k_2 = 0 → g_3 0 = y.toInt64)) := hw
  obtain ⟨rfl, hw_4⟩ := hw
  have hP : va_P (dC, dI) vwCl [(m0, .inr (10, [.int 0, .int 0, .int 0, .int 0, .ref (md 4), .ref (md 5), .ref (md 6), .ref (md 7), .ref (md 8), .ref (md 9), .ref (md 10), .ref (md 11), .int 0, .ref (md 13), .ref (md 14), .ref (md 15), .ref (md 16), .ref (md 17), .ref (md 18), .ref (md 19), .int 0, .int 0, .int 0, .int 0, .int (-1), .int 0, .ref (md 26), .ref (md 27), .ref (md 28), .ref (md 29), .ref (md 30), .ref (md 31), .ref (md 32), .ref (md 33), .ref (md 34), .ref (md 35), .int 0, .int 0, .int 0, .int 0, .int 0, .int 0, .int 0, .int 0, .int (-1), .int 0, .int 0, .ref (md 47), .ref (md 48), .ref (md 49), .ref (md 50)])), (ou, .inl (co, 1, .inr (.inl g_3)))] _ := hP
  have hD : va_D _ [(m0, .inr (10, [.int 0, .int 0, .int 0, .int 0, .ref (md 4), .ref (md 5), .ref (md 6), .ref (md 7), .ref (md 8), .ref (md 9), .ref (md 10), .ref (md 11), .int 0, .ref (md 13), .ref (md 14), .ref (md 15), .ref (md 16), .ref (md 17), .ref (md 18), .ref (md 19), .int 0, .int 0, .int 0, .int 0, .int (-1), .int 0, .ref (md 26), .ref (md 27), .ref (md 28), .ref (md 29), .ref (md 30), .ref (md 31), .ref (md 32), .ref (md 33), .ref (md 34), .ref (md 35), .int 0, .int 0, .int 0, .int 0, .int 0, .int 0, .int 0, .int 0, .int (-1), .int 0, .int 0, .ref (md 47), .ref (md 48), .ref (md 49), .ref (md 50)])), (ou, .inl (co, 1, .inr (.inl g_3)))] := hD
  have hK : va_K (dC, dI) vwCl [(co, .long)] s := hK
  refine W.eq (g2 := F0 m 841 ls [.int k_2]) rfl ?_
  refine lv_istore (lv' := [(5, .int k_2), (4, .int 0), (3, .ref ou), (2, .ref m0), (1, .ref x0), (0, .ref b)]) hx hb dL_law_841 hl (by decide) rfl (fun ls hl => ?_)
  refine lv_aload_n hx hb dL_law_843 rfl (lv_at hl 3 rfl) ?_
  refine lv_aload_n hx hb dL_law_844 rfl (lv_at hl 5 rfl) ?_
  refine lv_iload hx hb dL_law_845 (lv_at hl 1 rfl) ?_
  refine lv_iconst (v := 1) hx hb dL_law_847 (by decide) ?_
  refine lv_iadd hx hb dL_law_848 ?_
  refine lv_topi (fun z_5 ez_5 => ?_)
  obtain rfl : z_5 = 1 := ez_5.trans (by decide)
  refine va_sld hx hb hX hbl hbA hS (by unfold vp_in; decide) dL_law_849 ?_
  refine W.eq (g2 := F0 m 850 ls [.int (xs 1), .ref m0]) rfl ?_
  refine go_V (wr := [(ou, .inl (co, 1, .inr (.inl g_3)))]) ⟨hx, hb, hml, hown, hts⟩ (c_X10_ran l dC dI sa hlt _ m0 md mq (xs 1) ) (cwV 1 hts gL_law_X10_ran rfl rfl rfl (by decide +kernel) ⟨Nat.le_of_ble_eq_true rfl, Nat.le_of_ble_eq_true rfl⟩) hP hD hK hS hA hev [0] [1] [] rfl rfl rfl rfl (by decide) rfl 0 10 rfl rfl rfl rfl hl.1 rfl (Nat.le_of_ble_eq_true rfl) dL_law_850 ⟨Nat.le_of_ble_eq_true rfl, Nat.le_of_ble_eq_true rfl⟩ (fun r u H locs hw hP hD hK hS => ?_)
  obtain ⟨x_6, J_7⟩ := u
  have hw : r = some (.int x_6) ∧ (E_ran (xs 1) = (J_7 0, x_6)) := hw
  obtain ⟨rfl, hw_8⟩ := hw
  have hP : va_P (dC, dI) vwCl [(ou, .inl (co, 1, .inr (.inl g_3))), (m0, .inr (10, [.int (J_7 0), .int (J_7 1), .int (J_7 2), .int (J_7 3), .ref (md 4), .ref (md 5), .ref (md 6), .ref (md 7), .ref (md 8), .ref (md 9), .ref (md 10), .ref (md 11), .int (J_7 12), .ref (md 13), .ref (md 14), .ref (md 15), .ref (md 16), .ref (md 17), .ref (md 18), .ref (md 19), .int (J_7 20), .int (J_7 21), .int (J_7 22), .int (J_7 23), .int (J_7 24), .int (J_7 25), .ref (md 26), .ref (md 27), .ref (md 28), .ref (md 29), .ref (md 30), .ref (md 31), .ref (md 32), .ref (md 33), .ref (md 34), .ref (md 35), .int (J_7 36), .int (J_7 37), .int (J_7 38), .int (J_7 39), .int (J_7 40), .int (J_7 41), .int (J_7 42), .int (J_7 43), .int (J_7 44), .int (J_7 45), .int (J_7 46), .ref (md 47), .ref (md 48), .ref (md 49), .ref (md 50)]))] _ := hP
  have hD : va_D _ [(ou, .inl (co, 1, .inr (.inl g_3))), (m0, .inr (10, [.int (J_7 0), .int (J_7 1), .int (J_7 2), .int (J_7 3), .ref (md 4), .ref (md 5), .ref (md 6), .ref (md 7), .ref (md 8), .ref (md 9), .ref (md 10), .ref (md 11), .int (J_7 12), .ref (md 13), .ref (md 14), .ref (md 15), .ref (md 16), .ref (md 17), .ref (md 18), .ref (md 19), .int (J_7 20), .int (J_7 21), .int (J_7 22), .int (J_7 23), .int (J_7 24), .int (J_7 25), .ref (md 26), .ref (md 27), .ref (md 28), .ref (md 29), .ref (md 30), .ref (md 31), .ref (md 32), .ref (md 33), .ref (md 34), .ref (md 35), .int (J_7 36), .int (J_7 37), .int (J_7 38), .int (J_7 39), .int (J_7 40), .int (J_7 41), .int (J_7 42), .int (J_7 43), .int (J_7 44), .int (J_7 45), .int (J_7 46), .ref (md 47), .ref (md 48), .ref (md 49), .ref (md 50)]))] := hD
  have hK : va_K (dC, dI) vwCl [(co, .long)] s := hK
  refine W.eq (g2 := F0 m 853 ls [.int x_6]) rfl ?_
  obtain ⟨y9, hE1, hE2⟩ := hw_4
  obtain ⟨hk9, hy9⟩ := Prod.mk.inj (hE1.symm.trans hw_8)
  refine lv_istore (lv' := [(6, .int x_6), (5, .int k_2), (4, .int 0), (3, .ref ou), (2, .ref m0), (1, .ref x0), (0, .ref b)]) hx hb dL_law_853 hl (by decide) rfl (fun ls hl => ?_)
  refine lv_aload_n hx hb dL_law_855 rfl (lv_at hl 4 rfl) ?_
  refine go_V (wr := [(ou, .inl (co, 1, .inr (.inl g_3)))]) ⟨hx, hb, hml, hown, hts⟩ (c_X10_thrown l dC dI sa hlt _ m0 md J_7 ) (cwV 0 hts gL_law_X10_thrown rfl rfl rfl (by decide +kernel) ⟨Nat.le_of_ble_eq_true rfl, Nat.le_of_ble_eq_true rfl⟩) hP hD hK hS hA hev [1] [0] [] rfl rfl rfl rfl (by decide) rfl 1 10 rfl rfl rfl rfl hl.1 rfl (Nat.le_of_ble_eq_true rfl) dL_law_856 ⟨Nat.le_of_ble_eq_true rfl, Nat.le_of_ble_eq_true rfl⟩ (fun r u H locs hw hP hD hK hS => ?_)
  have hw : r = some (.int (J_7 0)) ∧ (True) := hw
  obtain ⟨rfl, hw_9⟩ := hw
  have hP : va_P (dC, dI) vwCl [(ou, .inl (co, 1, .inr (.inl g_3))), (m0, .inr (10, [.int (J_7 0), .int (J_7 1), .int (J_7 2), .int (J_7 3), .ref (md 4), .ref (md 5), .ref (md 6), .ref (md 7), .ref (md 8), .ref (md 9), .ref (md 10), .ref (md 11), .int (J_7 12), .ref (md 13), .ref (md 14), .ref (md 15), .ref (md 16), .ref (md 17), .ref (md 18), .ref (md 19), .int (J_7 20), .int (J_7 21), .int (J_7 22), .int (J_7 23), .int (J_7 24), .int (J_7 25), .ref (md 26), .ref (md 27), .ref (md 28), .ref (md 29), .ref (md 30), .ref (md 31), .ref (md 32), .ref (md 33), .ref (md 34), .ref (md 35), .int (J_7 36), .int (J_7 37), .int (J_7 38), .int (J_7 39), .int (J_7 40), .int (J_7 41), .int (J_7 42), .int (J_7 43), .int (J_7 44), .int (J_7 45), .int (J_7 46), .ref (md 47), .ref (md 48), .ref (md 49), .ref (md 50)]))] _ := hP
  have hD : va_D _ [(ou, .inl (co, 1, .inr (.inl g_3))), (m0, .inr (10, [.int (J_7 0), .int (J_7 1), .int (J_7 2), .int (J_7 3), .ref (md 4), .ref (md 5), .ref (md 6), .ref (md 7), .ref (md 8), .ref (md 9), .ref (md 10), .ref (md 11), .int (J_7 12), .ref (md 13), .ref (md 14), .ref (md 15), .ref (md 16), .ref (md 17), .ref (md 18), .ref (md 19), .int (J_7 20), .int (J_7 21), .int (J_7 22), .int (J_7 23), .int (J_7 24), .int (J_7 25), .ref (md 26), .ref (md 27), .ref (md 28), .ref (md 29), .ref (md 30), .ref (md 31), .ref (md 32), .ref (md 33), .ref (md 34), .ref (md 35), .int (J_7 36), .int (J_7 37), .int (J_7 38), .int (J_7 39), .int (J_7 40), .int (J_7 41), .int (J_7 42), .int (J_7 43), .int (J_7 44), .int (J_7 45), .int (J_7 46), .ref (md 47), .ref (md 48), .ref (md 49), .ref (md 50)]))] := hD
  have hK : va_K (dC, dI) vwCl [(co, .long)] s := hK
  refine W.eq (g2 := F0 m 859 ls [.int (J_7 0)]) rfl ?_
  refine lv_iload hx hb dL_law_859 (lv_at hl 1 rfl) ?_
  refine lv_icmp_eq (tgt := 866) hx hb dL_law_861 (by decide) (fun c_10 => ?_) (fun c_10 => ?_)
  rotate_left
  · exact absurd c_10 (fun h => h hk9.symm)
  refine lv_iload hx hb dL_law_866 (lv_at hl 1 rfl) ?_
  refine lv_if_ne (tgt := 883) hx hb dL_law_868 (by decide) (fun c_11 => ?_) (fun c_11 => ?_)
  · refine lv_goto (tgt := 1386) hx hb dL_law_883 (by decide) ?_
    exact law_end (dC := dC) (dI := dI) hlt C0 hev hS (Nat.le_of_ble_eq_true rfl) (Nat.le_of_ble_eq_true rfl) (lv_sub hl [2, 6] rfl)
  · refine lv_aload_n hx hb dL_law_871 rfl (lv_at hl 3 rfl) ?_
    refine lv_iconst (v := 0) hx hb dL_law_872 (by decide) ?_
    refine va_lald hx hb hK hP 0 0 rfl rfl (by unfold vp_in; decide) dL_law_873 ?_
    refine lv_iload hx hb dL_law_874 (lv_at hl 0 rfl) ?_
    refine lv_i2l (v := (x_6).toInt64) hx hb dL_law_876 rfl ?_
    refine W.lcmp hx hb dL_law_877 ?_
    refine lv_topi (fun z_12 ez_12 => ?_)
    refine lv_if_eq (tgt := 883) hx hb dL_law_878 (by decide) (fun c_13 => ?_) (fun c_13 => ?_)
    rotate_left
    · exact absurd c_13 (fun h => h (ez_12.trans (lgc ((hE2 c_11).trans (by rw [hy9])))))
    refine lv_goto (tgt := 1386) hx hb dL_law_883 (by decide) ?_
    exact law_end (dC := dC) (dI := dI) hlt C0 hev hS (Nat.le_of_ble_eq_true rfl) (Nat.le_of_ble_eq_true rfl) (lv_sub hl [2, 6] rfl)

set_option maxHeartbeats 4000000 in
set_option maxRecDepth 100000 in
theorem law_plan {p : Program} {l : Launch} {e : Env} {s : State} {m : MethodId} {below : List Frame} {meth : Method} {c : Code} {b : Nat} {xs : Nat → Int32} (hlt : l.stackTraces = false) (C0 : lw_At p s m meth c b 6 xs) {dC : Nat → ClassId} {dI : Nat → Nat → Nat} {sa : Nat → Nat} (hev : ev sa (fun q : Nat => s.heap.size ≤ q) s s.heap) {H : Heap} {locs : List Loc} {ls : Array Slot} {x0 m0 ou : Nat} {co : ClassId} {ad : Nat → Nat} {md : Nat → Nat} (hK : va_K (dC, dI) vwCl [(co, .long)] s) (hP : va_P (dC, dI) vwCl [(x0, .inr (9, [.ref (ad 0), .ref (ad 8), .int 0, .int 0, .ref (ad 9), .int 0, .ref (ad 10), .ref (ad 15), .int 0, .ref (ad 16), .ref (ad 17)])), (m0, .inr (10, [.int 0, .int 0, .int 0, .int 0, .ref (md 4), .ref (md 5), .ref (md 6), .ref (md 7), .ref (md 8), .ref (md 9), .ref (md 10), .ref (md 11), .int 0, .ref (md 13), .ref (md 14), .ref (md 15), .ref (md 16), .ref (md 17), .ref (md 18), .ref (md 19), .int 0, .int 0, .int 0, .int 0, .int (-1), .int 0, .ref (md 26), .ref (md 27), .ref (md 28), .ref (md 29), .ref (md 30), .ref (md 31), .ref (md 32), .ref (md 33), .ref (md 34), .ref (md 35), .int 0, .int 0, .int 0, .int 0, .int 0, .int 0, .int 0, .int 0, .int (-1), .int 0, .int 0, .ref (md 47), .ref (md 48), .ref (md 49), .ref (md 50)])), (ou, .inl (co, 1, .inr (.inl (fun _ => 0))))] H) (hD : va_D (fun q : Nat => s.heap.size ≤ q) [(x0, .inr (9, [.ref (ad 0), .ref (ad 8), .int 0, .int 0, .ref (ad 9), .int 0, .ref (ad 10), .ref (ad 15), .int 0, .ref (ad 16), .ref (ad 17)])), (m0, .inr (10, [.int 0, .int 0, .int 0, .int 0, .ref (md 4), .ref (md 5), .ref (md 6), .ref (md 7), .ref (md 8), .ref (md 9), .ref (md 10), .ref (md 11), .int 0, .ref (md 13), .ref (md 14), .ref (md 15), .ref (md 16), .ref (md 17), .ref (md 18), .ref (md 19), .int 0, .int 0, .int 0, .int 0, .int (-1), .int 0, .ref (md 26), .ref (md 27), .ref (md 28), .ref (md 29), .ref (md 30), .ref (md 31), .ref (md 32), .ref (md 33), .ref (md 34), .ref (md 35), .int 0, .int 0, .int 0, .int 0, .int 0, .int 0, .int 0, .int 0, .int (-1), .int 0, .int 0, .ref (md 47), .ref (md 48), .ref (md 49), .ref (md 50)])), (ou, .inl (co, 1, .inr (.inl (fun _ => 0))))]) (hS : va_S (fun q : Nat => s.heap.size ≤ q) s.heap H locs) (hl : lv_has ls 7 [(4, .int 0), (3, .ref ou), (2, .ref m0), (1, .ref x0), (0, .ref b)]) : W p l e room_1 s m #[Value.ref b] below meth c H locs 61 29719 (lw_Z below #[Value.ref b] s) (F0 m 886 ls []) := by
  obtain ⟨hx, hb, hr, hml, hown, hts, hX, hbl, hlocks, hgv⟩ := id C0
  have hown : s.vm.findClass RL = some m.cls := hown
  have hA : ∀ q : Nat, s.heap.size ≤ q → (fun q : Nat => s.heap.size ≤ q) q := fun _ h => h
  have hbA : ¬ (fun q : Nat => s.heap.size ≤ q) b := Nat.not_le.mpr hbl
  refine lv_aload_n hx hb dL_law_886 rfl (lv_at hl 3 rfl) ?_
  refine lv_aload_n hx hb dL_law_887 rfl (lv_at hl 4 rfl) ?_
  refine lv_iload hx hb dL_law_888 (lv_at hl 0 rfl) ?_
  refine lv_iconst (v := 1) hx hb dL_law_890 (by decide) ?_
  refine lv_iadd hx hb dL_law_891 ?_
  refine lv_topi (fun z_1 ez_1 => ?_)
  obtain rfl : z_1 = 1 := ez_1.trans (by decide)
  refine va_sld hx hb hX hbl hbA hS (by unfold vp_in; decide) dL_law_892 ?_
  refine W.eq (g2 := F0 m 893 ls [.int (xs 1), .ref x0]) rfl ?_
  refine lv_aload_n hx hb dL_law_893 rfl (lv_at hl 4 rfl) ?_
  refine lv_iload hx hb dL_law_894 (lv_at hl 0 rfl) ?_
  refine lv_iconst (v := 2) hx hb dL_law_896 (by decide) ?_
  refine lv_iadd hx hb dL_law_897 ?_
  refine lv_topi (fun z_2 ez_2 => ?_)
  obtain rfl : z_2 = 2 := ez_2.trans (by decide)
  refine va_sld hx hb hX hbl hbA hS (by unfold vp_in; decide) dL_law_898 ?_
  refine W.eq (g2 := F0 m 899 ls [.int (xs 2), .int (xs 1), .ref x0]) rfl ?_
  refine lv_aload_n hx hb dL_law_899 rfl (lv_at hl 4 rfl) ?_
  refine lv_iload hx hb dL_law_900 (lv_at hl 0 rfl) ?_
  refine lv_iconst (v := 3) hx hb dL_law_902 (by decide) ?_
  refine lv_iadd hx hb dL_law_903 ?_
  refine lv_topi (fun z_3 ez_3 => ?_)
  obtain rfl : z_3 = 3 := ez_3.trans (by decide)
  refine va_sld hx hb hX hbl hbA hS (by unfold vp_in; decide) dL_law_904 ?_
  refine W.eq (g2 := F0 m 905 ls [.int (xs 3), .int (xs 2), .int (xs 1), .ref x0]) rfl ?_
  refine lv_aload_n hx hb dL_law_905 rfl (lv_at hl 4 rfl) ?_
  refine lv_iload hx hb dL_law_906 (lv_at hl 0 rfl) ?_
  refine lv_iconst (v := 4) hx hb dL_law_908 (by decide) ?_
  refine lv_iadd hx hb dL_law_909 ?_
  refine lv_topi (fun z_4 ez_4 => ?_)
  obtain rfl : z_4 = 4 := ez_4.trans (by decide)
  refine va_sld hx hb hX hbl hbA hS (by unfold vp_in; decide) dL_law_910 ?_
  refine W.eq (g2 := F0 m 911 ls [.int (xs 4), .int (xs 3), .int (xs 2), .int (xs 1), .ref x0]) rfl ?_
  refine lv_aload_n hx hb dL_law_911 rfl (lv_at hl 1 rfl) ?_
  refine go_SW (wr := [(m0, .inr (10, [.int 0, .int 0, .int 0, .int 0, .ref (md 4), .ref (md 5), .ref (md 6), .ref (md 7), .ref (md 8), .ref (md 9), .ref (md 10), .ref (md 11), .int 0, .ref (md 13), .ref (md 14), .ref (md 15), .ref (md 16), .ref (md 17), .ref (md 18), .ref (md 19), .int 0, .int 0, .int 0, .int 0, .int (-1), .int 0, .ref (md 26), .ref (md 27), .ref (md 28), .ref (md 29), .ref (md 30), .ref (md 31), .ref (md 32), .ref (md 33), .ref (md 34), .ref (md 35), .int 0, .int 0, .int 0, .int 0, .int 0, .int 0, .int 0, .int 0, .int (-1), .int 0, .int 0, .ref (md 47), .ref (md 48), .ref (md 49), .ref (md 50)]))]) ⟨hx, hb, hml, hown, hts⟩ (c_L_plan l dC dI sa hlt _ x0 ad ou co (fun _ => 0) (xs 1) (xs 2) (xs 3) (xs 4) ) (vx_cwSW 6 hts gL_law_L_plan rfl rfl rfl (by decide +kernel) ⟨Nat.le_of_ble_eq_true rfl, Nat.le_of_ble_eq_true rfl⟩) hP hD hK hS hA hev [0, 2] [1] [0] rfl rfl rfl rfl (by decide) rfl rfl hl.1 rfl (Nat.le_of_ble_eq_true rfl) dL_law_912 ⟨Nat.le_of_ble_eq_true rfl, Nat.le_of_ble_eq_true rfl⟩ (fun r u H locs hw hP hD hK hS => ?_)
  obtain ⟨k_5, g_6⟩ := u
  have hw : r = some (.int k_5) ∧ (k_5 = 1) := hw
  obtain ⟨rfl, hw_7⟩ := hw
  have hP : va_P (dC, dI) vwCl [(m0, .inr (10, [.int 0, .int 0, .int 0, .int 0, .ref (md 4), .ref (md 5), .ref (md 6), .ref (md 7), .ref (md 8), .ref (md 9), .ref (md 10), .ref (md 11), .int 0, .ref (md 13), .ref (md 14), .ref (md 15), .ref (md 16), .ref (md 17), .ref (md 18), .ref (md 19), .int 0, .int 0, .int 0, .int 0, .int (-1), .int 0, .ref (md 26), .ref (md 27), .ref (md 28), .ref (md 29), .ref (md 30), .ref (md 31), .ref (md 32), .ref (md 33), .ref (md 34), .ref (md 35), .int 0, .int 0, .int 0, .int 0, .int 0, .int 0, .int 0, .int 0, .int (-1), .int 0, .int 0, .ref (md 47), .ref (md 48), .ref (md 49), .ref (md 50)])), (ou, .inl (co, 1, .inr (.inl g_6)))] _ := hP
  have hD : va_D _ [(m0, .inr (10, [.int 0, .int 0, .int 0, .int 0, .ref (md 4), .ref (md 5), .ref (md 6), .ref (md 7), .ref (md 8), .ref (md 9), .ref (md 10), .ref (md 11), .int 0, .ref (md 13), .ref (md 14), .ref (md 15), .ref (md 16), .ref (md 17), .ref (md 18), .ref (md 19), .int 0, .int 0, .int 0, .int 0, .int (-1), .int 0, .ref (md 26), .ref (md 27), .ref (md 28), .ref (md 29), .ref (md 30), .ref (md 31), .ref (md 32), .ref (md 33), .ref (md 34), .ref (md 35), .int 0, .int 0, .int 0, .int 0, .int 0, .int 0, .int 0, .int 0, .int (-1), .int 0, .int 0, .ref (md 47), .ref (md 48), .ref (md 49), .ref (md 50)])), (ou, .inl (co, 1, .inr (.inl g_6)))] := hD
  have hK : va_K (dC, dI) vwCl [(co, .long)] s := hK
  refine W.eq (g2 := F0 m 915 ls [.int k_5]) rfl ?_
  refine lv_istore (lv' := [(5, .int k_5), (4, .int 0), (3, .ref ou), (2, .ref m0), (1, .ref x0), (0, .ref b)]) hx hb dL_law_915 hl (by decide) rfl (fun ls hl => ?_)
  refine lv_aload_n hx hb dL_law_917 rfl (lv_at hl 3 rfl) ?_
  refine lv_aload_n hx hb dL_law_918 rfl (lv_at hl 5 rfl) ?_
  refine lv_iload hx hb dL_law_919 (lv_at hl 1 rfl) ?_
  refine lv_iconst (v := 1) hx hb dL_law_921 (by decide) ?_
  refine lv_iadd hx hb dL_law_922 ?_
  refine lv_topi (fun z_8 ez_8 => ?_)
  obtain rfl : z_8 = 1 := ez_8.trans (by decide)
  refine va_sld hx hb hX hbl hbA hS (by unfold vp_in; decide) dL_law_923 ?_
  refine W.eq (g2 := F0 m 924 ls [.int (xs 1), .ref m0]) rfl ?_
  refine lv_aload_n hx hb dL_law_924 rfl (lv_at hl 5 rfl) ?_
  refine lv_iload hx hb dL_law_925 (lv_at hl 1 rfl) ?_
  refine lv_iconst (v := 2) hx hb dL_law_927 (by decide) ?_
  refine lv_iadd hx hb dL_law_928 ?_
  refine lv_topi (fun z_9 ez_9 => ?_)
  obtain rfl : z_9 = 2 := ez_9.trans (by decide)
  refine va_sld hx hb hX hbl hbA hS (by unfold vp_in; decide) dL_law_929 ?_
  refine W.eq (g2 := F0 m 930 ls [.int (xs 2), .int (xs 1), .ref m0]) rfl ?_
  refine lv_aload_n hx hb dL_law_930 rfl (lv_at hl 5 rfl) ?_
  refine lv_iload hx hb dL_law_931 (lv_at hl 1 rfl) ?_
  refine lv_iconst (v := 3) hx hb dL_law_933 (by decide) ?_
  refine lv_iadd hx hb dL_law_934 ?_
  refine lv_topi (fun z_10 ez_10 => ?_)
  obtain rfl : z_10 = 3 := ez_10.trans (by decide)
  refine va_sld hx hb hX hbl hbA hS (by unfold vp_in; decide) dL_law_935 ?_
  refine W.eq (g2 := F0 m 936 ls [.int (xs 3), .int (xs 2), .int (xs 1), .ref m0]) rfl ?_
  refine lv_aload_n hx hb dL_law_936 rfl (lv_at hl 5 rfl) ?_
  refine lv_iload hx hb dL_law_937 (lv_at hl 1 rfl) ?_
  refine lv_iconst (v := 4) hx hb dL_law_939 (by decide) ?_
  refine lv_iadd hx hb dL_law_940 ?_
  refine lv_topi (fun z_11 ez_11 => ?_)
  obtain rfl : z_11 = 4 := ez_11.trans (by decide)
  refine va_sld hx hb hX hbl hbA hS (by unfold vp_in; decide) dL_law_941 ?_
  refine W.eq (g2 := F0 m 942 ls [.int (xs 4), .int (xs 3), .int (xs 2), .int (xs 1), .ref m0]) rfl ?_
  refine go_V (wr := [(ou, .inl (co, 1, .inr (.inl g_6)))]) ⟨hx, hb, hml, hown, hts⟩ (c_X10_plan l dC dI sa hlt _ m0 md (xs 1) (xs 2) (xs 3) (xs 4) ) (cwV 4 hts gL_law_X10_plan rfl rfl rfl (by decide +kernel) ⟨Nat.le_of_ble_eq_true rfl, Nat.le_of_ble_eq_true rfl⟩) hP hD hK hS hA hev [0] [1] [] rfl rfl rfl rfl (by decide) rfl 0 10 rfl rfl rfl rfl hl.1 rfl (Nat.le_of_ble_eq_true rfl) dL_law_942 ⟨Nat.le_of_ble_eq_true rfl, Nat.le_of_ble_eq_true rfl⟩ (fun r u H locs hw hP hD hK hS => ?_)
  obtain ⟨x_12, J_13⟩ := u
  have hw : r = some (.int x_12) ∧ (J_13 0 = 1) := hw
  obtain ⟨rfl, hw_14⟩ := hw
  have hP : va_P (dC, dI) vwCl [(ou, .inl (co, 1, .inr (.inl g_6))), (m0, .inr (10, [.int (J_13 0), .int (J_13 1), .int (J_13 2), .int (J_13 3), .ref (md 4), .ref (md 5), .ref (md 6), .ref (md 7), .ref (md 8), .ref (md 9), .ref (md 10), .ref (md 11), .int (J_13 12), .ref (md 13), .ref (md 14), .ref (md 15), .ref (md 16), .ref (md 17), .ref (md 18), .ref (md 19), .int (J_13 20), .int (J_13 21), .int (J_13 22), .int (J_13 23), .int (J_13 24), .int (J_13 25), .ref (md 26), .ref (md 27), .ref (md 28), .ref (md 29), .ref (md 30), .ref (md 31), .ref (md 32), .ref (md 33), .ref (md 34), .ref (md 35), .int (J_13 36), .int (J_13 37), .int (J_13 38), .int (J_13 39), .int (J_13 40), .int (J_13 41), .int (J_13 42), .int (J_13 43), .int (J_13 44), .int (J_13 45), .int (J_13 46), .ref (md 47), .ref (md 48), .ref (md 49), .ref (md 50)]))] _ := hP
  have hD : va_D _ [(ou, .inl (co, 1, .inr (.inl g_6))), (m0, .inr (10, [.int (J_13 0), .int (J_13 1), .int (J_13 2), .int (J_13 3), .ref (md 4), .ref (md 5), .ref (md 6), .ref (md 7), .ref (md 8), .ref (md 9), .ref (md 10), .ref (md 11), .int (J_13 12), .ref (md 13), .ref (md 14), .ref (md 15), .ref (md 16), .ref (md 17), .ref (md 18), .ref (md 19), .int (J_13 20), .int (J_13 21), .int (J_13 22), .int (J_13 23), .int (J_13 24), .int (J_13 25), .ref (md 26), .ref (md 27), .ref (md 28), .ref (md 29), .ref (md 30), .ref (md 31), .ref (md 32), .ref (md 33), .ref (md 34), .ref (md 35), .int (J_13 36), .int (J_13 37), .int (J_13 38), .int (J_13 39), .int (J_13 40), .int (J_13 41), .int (J_13 42), .int (J_13 43), .int (J_13 44), .int (J_13 45), .int (J_13 46), .ref (md 47), .ref (md 48), .ref (md 49), .ref (md 50)]))] := hD
  have hK : va_K (dC, dI) vwCl [(co, .long)] s := hK
  refine W.eq (g2 := F0 m 945 ls [.int x_12]) rfl ?_
  have hk9 := hw_7.trans hw_14.symm
  refine lv_istore (lv' := [(6, .int x_12), (5, .int k_5), (4, .int 0), (3, .ref ou), (2, .ref m0), (1, .ref x0), (0, .ref b)]) hx hb dL_law_945 hl (by decide) rfl (fun ls hl => ?_)
  refine lv_aload_n hx hb dL_law_947 rfl (lv_at hl 4 rfl) ?_
  refine go_V (wr := [(ou, .inl (co, 1, .inr (.inl g_6)))]) ⟨hx, hb, hml, hown, hts⟩ (c_X10_thrown l dC dI sa hlt _ m0 md J_13 ) (cwV 0 hts gL_law_X10_thrown rfl rfl rfl (by decide +kernel) ⟨Nat.le_of_ble_eq_true rfl, Nat.le_of_ble_eq_true rfl⟩) hP hD hK hS hA hev [1] [0] [] rfl rfl rfl rfl (by decide) rfl 1 10 rfl rfl rfl rfl hl.1 rfl (Nat.le_of_ble_eq_true rfl) dL_law_948 ⟨Nat.le_of_ble_eq_true rfl, Nat.le_of_ble_eq_true rfl⟩ (fun r u H locs hw hP hD hK hS => ?_)
  have hw : r = some (.int (J_13 0)) ∧ (True) := hw
  obtain ⟨rfl, hw_15⟩ := hw
  have hP : va_P (dC, dI) vwCl [(ou, .inl (co, 1, .inr (.inl g_6))), (m0, .inr (10, [.int (J_13 0), .int (J_13 1), .int (J_13 2), .int (J_13 3), .ref (md 4), .ref (md 5), .ref (md 6), .ref (md 7), .ref (md 8), .ref (md 9), .ref (md 10), .ref (md 11), .int (J_13 12), .ref (md 13), .ref (md 14), .ref (md 15), .ref (md 16), .ref (md 17), .ref (md 18), .ref (md 19), .int (J_13 20), .int (J_13 21), .int (J_13 22), .int (J_13 23), .int (J_13 24), .int (J_13 25), .ref (md 26), .ref (md 27), .ref (md 28), .ref (md 29), .ref (md 30), .ref (md 31), .ref (md 32), .ref (md 33), .ref (md 34), .ref (md 35), .int (J_13 36), .int (J_13 37), .int (J_13 38), .int (J_13 39), .int (J_13 40), .int (J_13 41), .int (J_13 42), .int (J_13 43), .int (J_13 44), .int (J_13 45), .int (J_13 46), .ref (md 47), .ref (md 48), .ref (md 49), .ref (md 50)]))] _ := hP
  have hD : va_D _ [(ou, .inl (co, 1, .inr (.inl g_6))), (m0, .inr (10, [.int (J_13 0), .int (J_13 1), .int (J_13 2), .int (J_13 3), .ref (md 4), .ref (md 5), .ref (md 6), .ref (md 7), .ref (md 8), .ref (md 9), .ref (md 10), .ref (md 11), .int (J_13 12), .ref (md 13), .ref (md 14), .ref (md 15), .ref (md 16), .ref (md 17), .ref (md 18), .ref (md 19), .int (J_13 20), .int (J_13 21), .int (J_13 22), .int (J_13 23), .int (J_13 24), .int (J_13 25), .ref (md 26), .ref (md 27), .ref (md 28), .ref (md 29), .ref (md 30), .ref (md 31), .ref (md 32), .ref (md 33), .ref (md 34), .ref (md 35), .int (J_13 36), .int (J_13 37), .int (J_13 38), .int (J_13 39), .int (J_13 40), .int (J_13 41), .int (J_13 42), .int (J_13 43), .int (J_13 44), .int (J_13 45), .int (J_13 46), .ref (md 47), .ref (md 48), .ref (md 49), .ref (md 50)]))] := hD
  have hK : va_K (dC, dI) vwCl [(co, .long)] s := hK
  refine W.eq (g2 := F0 m 951 ls [.int (J_13 0)]) rfl ?_
  refine lv_iload hx hb dL_law_951 (lv_at hl 1 rfl) ?_
  refine lv_icmp_eq (tgt := 958) hx hb dL_law_953 (by decide) (fun c_16 => ?_) (fun c_16 => ?_)
  rotate_left
  · exact absurd c_16 (fun h => h hk9.symm)
  refine lv_iload hx hb dL_law_958 (lv_at hl 1 rfl) ?_
  refine lv_if_ne (tgt := 975) hx hb dL_law_960 (by decide) (fun c_17 => ?_) (fun c_17 => ?_)
  rotate_left
  · exact absurd c_17 (by rw [hw_7]; decide)
  refine lv_goto (tgt := 1386) hx hb dL_law_975 (by decide) ?_
  exact law_end (dC := dC) (dI := dI) hlt C0 hev hS (Nat.le_of_ble_eq_true rfl) (Nat.le_of_ble_eq_true rfl) (lv_sub hl [2, 6] rfl)

set_option maxHeartbeats 4000000 in
set_option maxRecDepth 100000 in
theorem law_planned {p : Program} {l : Launch} {e : Env} {s : State} {m : MethodId} {below : List Frame} {meth : Method} {c : Code} {b : Nat} {xs : Nat → Int32} (hlt : l.stackTraces = false) (C0 : lw_At p s m meth c b 6 xs) {dC : Nat → ClassId} {dI : Nat → Nat → Nat} {sa : Nat → Nat} (hev : ev sa (fun q : Nat => s.heap.size ≤ q) s s.heap) {H : Heap} {locs : List Loc} {ls : Array Slot} {x0 m0 ou : Nat} {co : ClassId} {ad : Nat → Nat} {md : Nat → Nat} {mq : Nat → ClassId} (hK : va_K (dC, dI) vwCl [(co, .long)] s) (hP : va_P (dC, dI) vwCl [(x0, .inr (9, [.ref (ad 0), .ref (ad 8), .int 0, .int 0, .ref (ad 9), .int 0, .ref (ad 10), .ref (ad 15), .int 0, .ref (ad 16), .ref (ad 17)])), ((ad 17), .inr (1, [.ref (ad 0), .ref (ad 18), .ref (ad 25), .int 0, .int 0, .int 0, .ref (ad 26), .ref (ad 27), .ref (ad 28)])), (m0, .inr (10, [.int 0, .int 0, .int 0, .int 0, .ref (md 4), .ref (md 5), .ref (md 6), .ref (md 7), .ref (md 8), .ref (md 9), .ref (md 10), .ref (md 11), .int 0, .ref (md 13), .ref (md 14), .ref (md 15), .ref (md 16), .ref (md 17), .ref (md 18), .ref (md 19), .int 0, .int 0, .int 0, .int 0, .int (-1), .int 0, .ref (md 26), .ref (md 27), .ref (md 28), .ref (md 29), .ref (md 30), .ref (md 31), .ref (md 32), .ref (md 33), .ref (md 34), .ref (md 35), .int 0, .int 0, .int 0, .int 0, .int 0, .int 0, .int 0, .int 0, .int (-1), .int 0, .int 0, .ref (md 47), .ref (md 48), .ref (md 49), .ref (md 50)])), (ou, .inl (co, 1, .inr (.inl (fun _ => 0))))] H) (hD : va_D (fun q : Nat => s.heap.size ≤ q) [(x0, .inr (9, [.ref (ad 0), .ref (ad 8), .int 0, .int 0, .ref (ad 9), .int 0, .ref (ad 10), .ref (ad 15), .int 0, .ref (ad 16), .ref (ad 17)])), ((ad 17), .inr (1, [.ref (ad 0), .ref (ad 18), .ref (ad 25), .int 0, .int 0, .int 0, .ref (ad 26), .ref (ad 27), .ref (ad 28)])), (m0, .inr (10, [.int 0, .int 0, .int 0, .int 0, .ref (md 4), .ref (md 5), .ref (md 6), .ref (md 7), .ref (md 8), .ref (md 9), .ref (md 10), .ref (md 11), .int 0, .ref (md 13), .ref (md 14), .ref (md 15), .ref (md 16), .ref (md 17), .ref (md 18), .ref (md 19), .int 0, .int 0, .int 0, .int 0, .int (-1), .int 0, .ref (md 26), .ref (md 27), .ref (md 28), .ref (md 29), .ref (md 30), .ref (md 31), .ref (md 32), .ref (md 33), .ref (md 34), .ref (md 35), .int 0, .int 0, .int 0, .int 0, .int 0, .int 0, .int 0, .int 0, .int (-1), .int 0, .int 0, .ref (md 47), .ref (md 48), .ref (md 49), .ref (md 50)])), (ou, .inl (co, 1, .inr (.inl (fun _ => 0))))]) (hS : va_S (fun q : Nat => s.heap.size ≤ q) s.heap H locs) (hl : lv_has ls 7 [(4, .int 0), (3, .ref ou), (2, .ref m0), (1, .ref x0), (0, .ref b)]) : W p l e room_1 s m #[Value.ref b] below meth c H locs 61 29719 (lw_Z below #[Value.ref b] s) (F0 m 978 ls []) := by
  obtain ⟨hx, hb, hr, hml, hown, hts, hX, hbl, hlocks, hgv⟩ := id C0
  have hown : s.vm.findClass RL = some m.cls := hown
  have hA : ∀ q : Nat, s.heap.size ≤ q → (fun q : Nat => s.heap.size ≤ q) q := fun _ h => h
  have hbA : ¬ (fun q : Nat => s.heap.size ≤ q) b := Nat.not_le.mpr hbl
  refine lv_aload_n hx hb dL_law_978 rfl (lv_at hl 3 rfl) ?_
  refine lv_aload_n hx hb dL_law_979 rfl (lv_at hl 4 rfl) ?_
  refine lv_iload hx hb dL_law_980 (lv_at hl 0 rfl) ?_
  refine lv_iconst (v := 1) hx hb dL_law_982 (by decide) ?_
  refine lv_iadd hx hb dL_law_983 ?_
  refine lv_topi (fun z_1 ez_1 => ?_)
  obtain rfl : z_1 = 1 := ez_1.trans (by decide)
  refine va_sld hx hb hX hbl hbA hS (by unfold vp_in; decide) dL_law_984 ?_
  refine W.eq (g2 := F0 m 985 ls [.int (xs 1), .ref x0]) rfl ?_
  refine lv_aload_n hx hb dL_law_985 rfl (lv_at hl 4 rfl) ?_
  refine lv_iload hx hb dL_law_986 (lv_at hl 0 rfl) ?_
  refine lv_iconst (v := 2) hx hb dL_law_988 (by decide) ?_
  refine lv_iadd hx hb dL_law_989 ?_
  refine lv_topi (fun z_2 ez_2 => ?_)
  obtain rfl : z_2 = 2 := ez_2.trans (by decide)
  refine va_sld hx hb hX hbl hbA hS (by unfold vp_in; decide) dL_law_990 ?_
  refine W.eq (g2 := F0 m 991 ls [.int (xs 2), .int (xs 1), .ref x0]) rfl ?_
  refine lv_aload_n hx hb dL_law_991 rfl (lv_at hl 1 rfl) ?_
  refine go_SW (wr := [(m0, .inr (10, [.int 0, .int 0, .int 0, .int 0, .ref (md 4), .ref (md 5), .ref (md 6), .ref (md 7), .ref (md 8), .ref (md 9), .ref (md 10), .ref (md 11), .int 0, .ref (md 13), .ref (md 14), .ref (md 15), .ref (md 16), .ref (md 17), .ref (md 18), .ref (md 19), .int 0, .int 0, .int 0, .int 0, .int (-1), .int 0, .ref (md 26), .ref (md 27), .ref (md 28), .ref (md 29), .ref (md 30), .ref (md 31), .ref (md 32), .ref (md 33), .ref (md 34), .ref (md 35), .int 0, .int 0, .int 0, .int 0, .int 0, .int 0, .int 0, .int 0, .int (-1), .int 0, .int 0, .ref (md 47), .ref (md 48), .ref (md 49), .ref (md 50)]))]) ⟨hx, hb, hml, hown, hts⟩ (c_L_planned l dC dI sa hlt _ x0 ad ou co (fun _ => 0) (xs 1) (xs 2) ) (vx_cwSW 4 hts gL_law_L_planned rfl rfl rfl (by decide +kernel) ⟨Nat.le_of_ble_eq_true rfl, Nat.le_of_ble_eq_true rfl⟩) hP hD hK hS hA hev [0, 1, 3] [2] [0] rfl rfl rfl rfl (by decide) rfl rfl hl.1 rfl (Nat.le_of_ble_eq_true rfl) dL_law_992 ⟨Nat.le_of_ble_eq_true rfl, Nat.le_of_ble_eq_true rfl⟩ (fun r u H locs hw hP hD hK hS => ?_)
  obtain ⟨k_3, g_4⟩ := u
  have hw : r = some (.int k_3) ∧ (k_3 = 1) := hw
  obtain ⟨rfl, hw_5⟩ := hw
  have hP : va_P (dC, dI) vwCl [(m0, .inr (10, [.int 0, .int 0, .int 0, .int 0, .ref (md 4), .ref (md 5), .ref (md 6), .ref (md 7), .ref (md 8), .ref (md 9), .ref (md 10), .ref (md 11), .int 0, .ref (md 13), .ref (md 14), .ref (md 15), .ref (md 16), .ref (md 17), .ref (md 18), .ref (md 19), .int 0, .int 0, .int 0, .int 0, .int (-1), .int 0, .ref (md 26), .ref (md 27), .ref (md 28), .ref (md 29), .ref (md 30), .ref (md 31), .ref (md 32), .ref (md 33), .ref (md 34), .ref (md 35), .int 0, .int 0, .int 0, .int 0, .int 0, .int 0, .int 0, .int 0, .int (-1), .int 0, .int 0, .ref (md 47), .ref (md 48), .ref (md 49), .ref (md 50)])), (ou, .inl (co, 1, .inr (.inl g_4)))] _ := hP
  have hD : va_D _ [(m0, .inr (10, [.int 0, .int 0, .int 0, .int 0, .ref (md 4), .ref (md 5), .ref (md 6), .ref (md 7), .ref (md 8), .ref (md 9), .ref (md 10), .ref (md 11), .int 0, .ref (md 13), .ref (md 14), .ref (md 15), .ref (md 16), .ref (md 17), .ref (md 18), .ref (md 19), .int 0, .int 0, .int 0, .int 0, .int (-1), .int 0, .ref (md 26), .ref (md 27), .ref (md 28), .ref (md 29), .ref (md 30), .ref (md 31), .ref (md 32), .ref (md 33), .ref (md 34), .ref (md 35), .int 0, .int 0, .int 0, .int 0, .int 0, .int 0, .int 0, .int 0, .int (-1), .int 0, .int 0, .ref (md 47), .ref (md 48), .ref (md 49), .ref (md 50)])), (ou, .inl (co, 1, .inr (.inl g_4)))] := hD
  have hK : va_K (dC, dI) vwCl [(co, .long)] s := hK
  refine W.eq (g2 := F0 m 995 ls [.int k_3]) rfl ?_
  refine lv_istore (lv' := [(5, .int k_3), (4, .int 0), (3, .ref ou), (2, .ref m0), (1, .ref x0), (0, .ref b)]) hx hb dL_law_995 hl (by decide) rfl (fun ls hl => ?_)
  refine lv_aload_n hx hb dL_law_997 rfl (lv_at hl 3 rfl) ?_
  refine lv_aload_n hx hb dL_law_998 rfl (lv_at hl 5 rfl) ?_
  refine lv_iload hx hb dL_law_999 (lv_at hl 1 rfl) ?_
  refine lv_iconst (v := 1) hx hb dL_law_1001 (by decide) ?_
  refine lv_iadd hx hb dL_law_1002 ?_
  refine lv_topi (fun z_6 ez_6 => ?_)
  obtain rfl : z_6 = 1 := ez_6.trans (by decide)
  refine va_sld hx hb hX hbl hbA hS (by unfold vp_in; decide) dL_law_1003 ?_
  refine W.eq (g2 := F0 m 1004 ls [.int (xs 1), .ref m0]) rfl ?_
  refine lv_aload_n hx hb dL_law_1004 rfl (lv_at hl 5 rfl) ?_
  refine lv_iload hx hb dL_law_1005 (lv_at hl 1 rfl) ?_
  refine lv_iconst (v := 2) hx hb dL_law_1007 (by decide) ?_
  refine lv_iadd hx hb dL_law_1008 ?_
  refine lv_topi (fun z_7 ez_7 => ?_)
  obtain rfl : z_7 = 2 := ez_7.trans (by decide)
  refine va_sld hx hb hX hbl hbA hS (by unfold vp_in; decide) dL_law_1009 ?_
  refine W.eq (g2 := F0 m 1010 ls [.int (xs 2), .int (xs 1), .ref m0]) rfl ?_
  refine go_V (wr := [(ou, .inl (co, 1, .inr (.inl g_4)))]) ⟨hx, hb, hml, hown, hts⟩ (c_X10_planned l dC dI sa hlt _ m0 md mq (xs 1) (xs 2) ) (cwV 2 hts gL_law_X10_planned rfl rfl rfl (by decide +kernel) ⟨Nat.le_of_ble_eq_true rfl, Nat.le_of_ble_eq_true rfl⟩) hP hD hK hS hA hev [0] [1] [] rfl rfl rfl rfl (by decide) rfl 0 10 rfl rfl rfl rfl hl.1 rfl (Nat.le_of_ble_eq_true rfl) dL_law_1010 ⟨Nat.le_of_ble_eq_true rfl, Nat.le_of_ble_eq_true rfl⟩ (fun r u H locs hw hP hD hK hS => ?_)
  obtain ⟨x_8, J_9⟩ := u
  have hw : r = some (.int x_8) ∧ (J_9 0 = 1) := hw
  obtain ⟨rfl, hw_10⟩ := hw
  have hP : va_P (dC, dI) vwCl [(ou, .inl (co, 1, .inr (.inl g_4))), (m0, .inr (10, [.int (J_9 0), .int (J_9 1), .int (J_9 2), .int (J_9 3), .ref (md 4), .ref (md 5), .ref (md 6), .ref (md 7), .ref (md 8), .ref (md 9), .ref (md 10), .ref (md 11), .int (J_9 12), .ref (md 13), .ref (md 14), .ref (md 15), .ref (md 16), .ref (md 17), .ref (md 18), .ref (md 19), .int (J_9 20), .int (J_9 21), .int (J_9 22), .int (J_9 23), .int (J_9 24), .int (J_9 25), .ref (md 26), .ref (md 27), .ref (md 28), .ref (md 29), .ref (md 30), .ref (md 31), .ref (md 32), .ref (md 33), .ref (md 34), .ref (md 35), .int (J_9 36), .int (J_9 37), .int (J_9 38), .int (J_9 39), .int (J_9 40), .int (J_9 41), .int (J_9 42), .int (J_9 43), .int (J_9 44), .int (J_9 45), .int (J_9 46), .ref (md 47), .ref (md 48), .ref (md 49), .ref (md 50)]))] _ := hP
  have hD : va_D _ [(ou, .inl (co, 1, .inr (.inl g_4))), (m0, .inr (10, [.int (J_9 0), .int (J_9 1), .int (J_9 2), .int (J_9 3), .ref (md 4), .ref (md 5), .ref (md 6), .ref (md 7), .ref (md 8), .ref (md 9), .ref (md 10), .ref (md 11), .int (J_9 12), .ref (md 13), .ref (md 14), .ref (md 15), .ref (md 16), .ref (md 17), .ref (md 18), .ref (md 19), .int (J_9 20), .int (J_9 21), .int (J_9 22), .int (J_9 23), .int (J_9 24), .int (J_9 25), .ref (md 26), .ref (md 27), .ref (md 28), .ref (md 29), .ref (md 30), .ref (md 31), .ref (md 32), .ref (md 33), .ref (md 34), .ref (md 35), .int (J_9 36), .int (J_9 37), .int (J_9 38), .int (J_9 39), .int (J_9 40), .int (J_9 41), .int (J_9 42), .int (J_9 43), .int (J_9 44), .int (J_9 45), .int (J_9 46), .ref (md 47), .ref (md 48), .ref (md 49), .ref (md 50)]))] := hD
  have hK : va_K (dC, dI) vwCl [(co, .long)] s := hK
  refine W.eq (g2 := F0 m 1013 ls [.int x_8]) rfl ?_
  have hk9 := hw_5.trans hw_10.symm
  refine lv_istore (lv' := [(6, .int x_8), (5, .int k_3), (4, .int 0), (3, .ref ou), (2, .ref m0), (1, .ref x0), (0, .ref b)]) hx hb dL_law_1013 hl (by decide) rfl (fun ls hl => ?_)
  refine lv_aload_n hx hb dL_law_1015 rfl (lv_at hl 4 rfl) ?_
  refine go_V (wr := [(ou, .inl (co, 1, .inr (.inl g_4)))]) ⟨hx, hb, hml, hown, hts⟩ (c_X10_thrown l dC dI sa hlt _ m0 md J_9 ) (cwV 0 hts gL_law_X10_thrown rfl rfl rfl (by decide +kernel) ⟨Nat.le_of_ble_eq_true rfl, Nat.le_of_ble_eq_true rfl⟩) hP hD hK hS hA hev [1] [0] [] rfl rfl rfl rfl (by decide) rfl 1 10 rfl rfl rfl rfl hl.1 rfl (Nat.le_of_ble_eq_true rfl) dL_law_1016 ⟨Nat.le_of_ble_eq_true rfl, Nat.le_of_ble_eq_true rfl⟩ (fun r u H locs hw hP hD hK hS => ?_)
  have hw : r = some (.int (J_9 0)) ∧ (True) := hw
  obtain ⟨rfl, hw_11⟩ := hw
  have hP : va_P (dC, dI) vwCl [(ou, .inl (co, 1, .inr (.inl g_4))), (m0, .inr (10, [.int (J_9 0), .int (J_9 1), .int (J_9 2), .int (J_9 3), .ref (md 4), .ref (md 5), .ref (md 6), .ref (md 7), .ref (md 8), .ref (md 9), .ref (md 10), .ref (md 11), .int (J_9 12), .ref (md 13), .ref (md 14), .ref (md 15), .ref (md 16), .ref (md 17), .ref (md 18), .ref (md 19), .int (J_9 20), .int (J_9 21), .int (J_9 22), .int (J_9 23), .int (J_9 24), .int (J_9 25), .ref (md 26), .ref (md 27), .ref (md 28), .ref (md 29), .ref (md 30), .ref (md 31), .ref (md 32), .ref (md 33), .ref (md 34), .ref (md 35), .int (J_9 36), .int (J_9 37), .int (J_9 38), .int (J_9 39), .int (J_9 40), .int (J_9 41), .int (J_9 42), .int (J_9 43), .int (J_9 44), .int (J_9 45), .int (J_9 46), .ref (md 47), .ref (md 48), .ref (md 49), .ref (md 50)]))] _ := hP
  have hD : va_D _ [(ou, .inl (co, 1, .inr (.inl g_4))), (m0, .inr (10, [.int (J_9 0), .int (J_9 1), .int (J_9 2), .int (J_9 3), .ref (md 4), .ref (md 5), .ref (md 6), .ref (md 7), .ref (md 8), .ref (md 9), .ref (md 10), .ref (md 11), .int (J_9 12), .ref (md 13), .ref (md 14), .ref (md 15), .ref (md 16), .ref (md 17), .ref (md 18), .ref (md 19), .int (J_9 20), .int (J_9 21), .int (J_9 22), .int (J_9 23), .int (J_9 24), .int (J_9 25), .ref (md 26), .ref (md 27), .ref (md 28), .ref (md 29), .ref (md 30), .ref (md 31), .ref (md 32), .ref (md 33), .ref (md 34), .ref (md 35), .int (J_9 36), .int (J_9 37), .int (J_9 38), .int (J_9 39), .int (J_9 40), .int (J_9 41), .int (J_9 42), .int (J_9 43), .int (J_9 44), .int (J_9 45), .int (J_9 46), .ref (md 47), .ref (md 48), .ref (md 49), .ref (md 50)]))] := hD
  have hK : va_K (dC, dI) vwCl [(co, .long)] s := hK
  refine W.eq (g2 := F0 m 1019 ls [.int (J_9 0)]) rfl ?_
  refine lv_iload hx hb dL_law_1019 (lv_at hl 1 rfl) ?_
  refine lv_icmp_eq (tgt := 1026) hx hb dL_law_1021 (by decide) (fun c_12 => ?_) (fun c_12 => ?_)
  rotate_left
  · exact absurd c_12 (fun h => h hk9.symm)
  refine lv_iload hx hb dL_law_1026 (lv_at hl 1 rfl) ?_
  refine lv_if_ne (tgt := 1043) hx hb dL_law_1028 (by decide) (fun c_13 => ?_) (fun c_13 => ?_)
  rotate_left
  · exact absurd c_13 (by rw [hw_5]; decide)
  refine lv_goto (tgt := 1386) hx hb dL_law_1043 (by decide) ?_
  exact law_end (dC := dC) (dI := dI) hlt C0 hev hS (Nat.le_of_ble_eq_true rfl) (Nat.le_of_ble_eq_true rfl) (lv_sub hl [2, 6] rfl)

set_option maxHeartbeats 4000000 in
set_option maxRecDepth 100000 in
theorem law_vat {p : Program} {l : Launch} {e : Env} {s : State} {m : MethodId} {below : List Frame} {meth : Method} {c : Code} {b : Nat} {xs : Nat → Int32} (hlt : l.stackTraces = false) (C0 : lw_At p s m meth c b 6 xs) {dC : Nat → ClassId} {dI : Nat → Nat → Nat} {sa : Nat → Nat} (hev : ev sa (fun q : Nat => s.heap.size ≤ q) s s.heap) {H : Heap} {locs : List Loc} {ls : Array Slot} {x0 m0 ou : Nat} {co : ClassId} {ad : Nat → Nat} {ca : Nat → ClassId} {fv : Nat → Option Nat} {qv : Nat} {nn : Int32} {md : Nat → Nat} {mq : Nat → ClassId} {fs : Nat → Int32} (hfv : ∀ k, k < 6 → fv k = some (ad (2 + k))) (hq : ¬ (xs 1) < 0 → ¬ 6 ≤ (xs 1) → ad (2 + (xs 1).toNatClampNeg) = qv) (hfs : ∀ k, k < 6 → fs k = 2) (hK : va_K (dC, dI) vwCl [((ca 1), .object "VatHouse$Vat"), ((mq 4), .int), ((mq 5), .int), ((mq 6), .int), ((mq 7), .int), ((mq 8), .int), ((mq 9), .int), (co, .long)] s) (hP : va_P (dC, dI) vwCl [(x0, .inr (9, [.ref (ad 0), .ref (ad 8), .int 0, .int 0, .ref (ad 9), .int 0, .ref (ad 10), .ref (ad 15), .int 0, .ref (ad 16), .ref (ad 17)])), ((ad 0), .inr (8, [.ref (ad 1), .int 0, .int 0])), ((ad 1), .inl ((ca 1), 6, .inr (.inr (.inr (.inr fv))))), (qv, .inr (7, [.int nn, .int 0, .int 0, .int 0, .int 2, .int 0, .int 0, .int (-2)])), (m0, .inr (10, [.int 0, .int 0, .int 0, .int 0, .ref (md 4), .ref (md 5), .ref (md 6), .ref (md 7), .ref (md 8), .ref (md 9), .ref (md 10), .ref (md 11), .int 0, .ref (md 13), .ref (md 14), .ref (md 15), .ref (md 16), .ref (md 17), .ref (md 18), .ref (md 19), .int 0, .int 0, .int 0, .int 0, .int (-1), .int 0, .ref (md 26), .ref (md 27), .ref (md 28), .ref (md 29), .ref (md 30), .ref (md 31), .ref (md 32), .ref (md 33), .ref (md 34), .ref (md 35), .int 0, .int 0, .int 0, .int 0, .int 0, .int 0, .int 0, .int 0, .int (-1), .int 0, .int 0, .ref (md 47), .ref (md 48), .ref (md 49), .ref (md 50)])), ((md 4), .inl ((mq 4), 6, .inl (fun _ => 0))), ((md 5), .inl ((mq 5), 6, .inl (fun _ => 0))), ((md 6), .inl ((mq 6), 6, .inl (fun _ => 0))), ((md 7), .inl ((mq 7), 6, .inl fs)), ((md 8), .inl ((mq 8), 6, .inl (fun _ => 0))), ((md 9), .inl ((mq 9), 6, .inl (fun _ => 0))), (ou, .inl (co, 1, .inr (.inl (fun _ => 0))))] H) (hD : va_D (fun q : Nat => s.heap.size ≤ q) [(x0, .inr (9, [.ref (ad 0), .ref (ad 8), .int 0, .int 0, .ref (ad 9), .int 0, .ref (ad 10), .ref (ad 15), .int 0, .ref (ad 16), .ref (ad 17)])), ((ad 0), .inr (8, [.ref (ad 1), .int 0, .int 0])), ((ad 1), .inl ((ca 1), 6, .inr (.inr (.inr (.inr fv))))), (qv, .inr (7, [.int nn, .int 0, .int 0, .int 0, .int 2, .int 0, .int 0, .int (-2)])), (m0, .inr (10, [.int 0, .int 0, .int 0, .int 0, .ref (md 4), .ref (md 5), .ref (md 6), .ref (md 7), .ref (md 8), .ref (md 9), .ref (md 10), .ref (md 11), .int 0, .ref (md 13), .ref (md 14), .ref (md 15), .ref (md 16), .ref (md 17), .ref (md 18), .ref (md 19), .int 0, .int 0, .int 0, .int 0, .int (-1), .int 0, .ref (md 26), .ref (md 27), .ref (md 28), .ref (md 29), .ref (md 30), .ref (md 31), .ref (md 32), .ref (md 33), .ref (md 34), .ref (md 35), .int 0, .int 0, .int 0, .int 0, .int 0, .int 0, .int 0, .int 0, .int (-1), .int 0, .int 0, .ref (md 47), .ref (md 48), .ref (md 49), .ref (md 50)])), ((md 4), .inl ((mq 4), 6, .inl (fun _ => 0))), ((md 5), .inl ((mq 5), 6, .inl (fun _ => 0))), ((md 6), .inl ((mq 6), 6, .inl (fun _ => 0))), ((md 7), .inl ((mq 7), 6, .inl fs)), ((md 8), .inl ((mq 8), 6, .inl (fun _ => 0))), ((md 9), .inl ((mq 9), 6, .inl (fun _ => 0))), (ou, .inl (co, 1, .inr (.inl (fun _ => 0))))]) (hS : va_S (fun q : Nat => s.heap.size ≤ q) s.heap H locs) (hl : lv_has ls 7 [(4, .int 0), (3, .ref ou), (2, .ref m0), (1, .ref x0), (0, .ref b)]) : W p l e room_1 s m #[Value.ref b] below meth c H locs 61 29719 (lw_Z below #[Value.ref b] s) (F0 m 1046 ls []) := by
  obtain ⟨hx, hb, hr, hml, hown, hts, hX, hbl, hlocks, hgv⟩ := id C0
  have hown : s.vm.findClass RL = some m.cls := hown
  have hA : ∀ q : Nat, s.heap.size ≤ q → (fun q : Nat => s.heap.size ≤ q) q := fun _ h => h
  have hbA : ¬ (fun q : Nat => s.heap.size ≤ q) b := Nat.not_le.mpr hbl
  refine lv_aload_n hx hb dL_law_1046 rfl (lv_at hl 3 rfl) ?_
  refine lv_aload_n hx hb dL_law_1047 rfl (lv_at hl 4 rfl) ?_
  refine lv_iload hx hb dL_law_1048 (lv_at hl 0 rfl) ?_
  refine lv_iconst (v := 1) hx hb dL_law_1050 (by decide) ?_
  refine lv_iadd hx hb dL_law_1051 ?_
  refine lv_topi (fun z_1 ez_1 => ?_)
  obtain rfl : z_1 = 1 := ez_1.trans (by decide)
  refine va_sld hx hb hX hbl hbA hS (by unfold vp_in; decide) dL_law_1052 ?_
  refine W.eq (g2 := F0 m 1053 ls [.int (xs 1), .ref x0]) rfl ?_
  refine lv_aload_n hx hb dL_law_1053 rfl (lv_at hl 4 rfl) ?_
  refine lv_iload hx hb dL_law_1054 (lv_at hl 0 rfl) ?_
  refine lv_iconst (v := 2) hx hb dL_law_1056 (by decide) ?_
  refine lv_iadd hx hb dL_law_1057 ?_
  refine lv_topi (fun z_2 ez_2 => ?_)
  obtain rfl : z_2 = 2 := ez_2.trans (by decide)
  refine va_sld hx hb hX hbl hbA hS (by unfold vp_in; decide) dL_law_1058 ?_
  refine W.eq (g2 := F0 m 1059 ls [.int (xs 2), .int (xs 1), .ref x0]) rfl ?_
  refine lv_aload_n hx hb dL_law_1059 rfl (lv_at hl 1 rfl) ?_
  refine go_SW (wr := [(m0, .inr (10, [.int 0, .int 0, .int 0, .int 0, .ref (md 4), .ref (md 5), .ref (md 6), .ref (md 7), .ref (md 8), .ref (md 9), .ref (md 10), .ref (md 11), .int 0, .ref (md 13), .ref (md 14), .ref (md 15), .ref (md 16), .ref (md 17), .ref (md 18), .ref (md 19), .int 0, .int 0, .int 0, .int 0, .int (-1), .int 0, .ref (md 26), .ref (md 27), .ref (md 28), .ref (md 29), .ref (md 30), .ref (md 31), .ref (md 32), .ref (md 33), .ref (md 34), .ref (md 35), .int 0, .int 0, .int 0, .int 0, .int 0, .int 0, .int 0, .int 0, .int (-1), .int 0, .int 0, .ref (md 47), .ref (md 48), .ref (md 49), .ref (md 50)])), ((md 4), .inl ((mq 4), 6, .inl (fun _ => 0))), ((md 5), .inl ((mq 5), 6, .inl (fun _ => 0))), ((md 6), .inl ((mq 6), 6, .inl (fun _ => 0))), ((md 7), .inl ((mq 7), 6, .inl fs)), ((md 8), .inl ((mq 8), 6, .inl (fun _ => 0))), ((md 9), .inl ((mq 9), 6, .inl (fun _ => 0)))]) ⟨hx, hb, hml, hown, hts⟩ (c_L_vat l dC dI sa hlt _ x0 ad ca fv qv nn ou co (fun _ => 0) (xs 1) (xs 2) hfv hq) (vx_cwSW 4 hts gL_law_L_vat rfl rfl rfl (by decide +kernel) ⟨Nat.le_of_ble_eq_true rfl, Nat.le_of_ble_eq_true rfl⟩) hP hD hK hS hA hev [0, 1, 2, 3, 11] [4, 5, 6, 7, 8, 9, 10] [0, 7] rfl rfl rfl rfl (by decide) rfl rfl hl.1 rfl (Nat.le_of_ble_eq_true rfl) dL_law_1060 ⟨Nat.le_of_ble_eq_true rfl, Nat.le_of_ble_eq_true rfl⟩ (fun r u H locs hw hP hD hK hS => ?_)
  obtain ⟨k_3, g_4⟩ := u
  have hw : r = some (.int k_3) ∧ (∃ y : Int32, E_vat (xs 1) (xs 2) = (k_3, y) ∧ (k_3 = 0 → g_4 0 = y.toInt64)) := hw
  obtain ⟨rfl, hw_5⟩ := hw
  have hP : va_P (dC, dI) vwCl [(m0, .inr (10, [.int 0, .int 0, .int 0, .int 0, .ref (md 4), .ref (md 5), .ref (md 6), .ref (md 7), .ref (md 8), .ref (md 9), .ref (md 10), .ref (md 11), .int 0, .ref (md 13), .ref (md 14), .ref (md 15), .ref (md 16), .ref (md 17), .ref (md 18), .ref (md 19), .int 0, .int 0, .int 0, .int 0, .int (-1), .int 0, .ref (md 26), .ref (md 27), .ref (md 28), .ref (md 29), .ref (md 30), .ref (md 31), .ref (md 32), .ref (md 33), .ref (md 34), .ref (md 35), .int 0, .int 0, .int 0, .int 0, .int 0, .int 0, .int 0, .int 0, .int (-1), .int 0, .int 0, .ref (md 47), .ref (md 48), .ref (md 49), .ref (md 50)])), ((md 4), .inl ((mq 4), 6, .inl (fun _ => 0))), ((md 5), .inl ((mq 5), 6, .inl (fun _ => 0))), ((md 6), .inl ((mq 6), 6, .inl (fun _ => 0))), ((md 7), .inl ((mq 7), 6, .inl fs)), ((md 8), .inl ((mq 8), 6, .inl (fun _ => 0))), ((md 9), .inl ((mq 9), 6, .inl (fun _ => 0))), (ou, .inl (co, 1, .inr (.inl g_4)))] _ := hP
  have hD : va_D _ [(m0, .inr (10, [.int 0, .int 0, .int 0, .int 0, .ref (md 4), .ref (md 5), .ref (md 6), .ref (md 7), .ref (md 8), .ref (md 9), .ref (md 10), .ref (md 11), .int 0, .ref (md 13), .ref (md 14), .ref (md 15), .ref (md 16), .ref (md 17), .ref (md 18), .ref (md 19), .int 0, .int 0, .int 0, .int 0, .int (-1), .int 0, .ref (md 26), .ref (md 27), .ref (md 28), .ref (md 29), .ref (md 30), .ref (md 31), .ref (md 32), .ref (md 33), .ref (md 34), .ref (md 35), .int 0, .int 0, .int 0, .int 0, .int 0, .int 0, .int 0, .int 0, .int (-1), .int 0, .int 0, .ref (md 47), .ref (md 48), .ref (md 49), .ref (md 50)])), ((md 4), .inl ((mq 4), 6, .inl (fun _ => 0))), ((md 5), .inl ((mq 5), 6, .inl (fun _ => 0))), ((md 6), .inl ((mq 6), 6, .inl (fun _ => 0))), ((md 7), .inl ((mq 7), 6, .inl fs)), ((md 8), .inl ((mq 8), 6, .inl (fun _ => 0))), ((md 9), .inl ((mq 9), 6, .inl (fun _ => 0))), (ou, .inl (co, 1, .inr (.inl g_4)))] := hD
  have hK : va_K (dC, dI) vwCl [((ca 1), .object "VatHouse$Vat"), ((mq 4), .int), ((mq 5), .int), ((mq 6), .int), ((mq 7), .int), ((mq 8), .int), ((mq 9), .int), (co, .long)] s := hK
  refine W.eq (g2 := F0 m 1063 ls [.int k_3]) rfl ?_
  refine lv_istore (lv' := [(5, .int k_3), (4, .int 0), (3, .ref ou), (2, .ref m0), (1, .ref x0), (0, .ref b)]) hx hb dL_law_1063 hl (by decide) rfl (fun ls hl => ?_)
  refine lv_aload_n hx hb dL_law_1065 rfl (lv_at hl 3 rfl) ?_
  refine lv_aload_n hx hb dL_law_1066 rfl (lv_at hl 5 rfl) ?_
  refine lv_iload hx hb dL_law_1067 (lv_at hl 1 rfl) ?_
  refine lv_iconst (v := 1) hx hb dL_law_1069 (by decide) ?_
  refine lv_iadd hx hb dL_law_1070 ?_
  refine lv_topi (fun z_6 ez_6 => ?_)
  obtain rfl : z_6 = 1 := ez_6.trans (by decide)
  refine va_sld hx hb hX hbl hbA hS (by unfold vp_in; decide) dL_law_1071 ?_
  refine W.eq (g2 := F0 m 1072 ls [.int (xs 1), .ref m0]) rfl ?_
  refine lv_aload_n hx hb dL_law_1072 rfl (lv_at hl 5 rfl) ?_
  refine lv_iload hx hb dL_law_1073 (lv_at hl 1 rfl) ?_
  refine lv_iconst (v := 2) hx hb dL_law_1075 (by decide) ?_
  refine lv_iadd hx hb dL_law_1076 ?_
  refine lv_topi (fun z_7 ez_7 => ?_)
  obtain rfl : z_7 = 2 := ez_7.trans (by decide)
  refine va_sld hx hb hX hbl hbA hS (by unfold vp_in; decide) dL_law_1077 ?_
  refine W.eq (g2 := F0 m 1078 ls [.int (xs 2), .int (xs 1), .ref m0]) rfl ?_
  refine go_V (wr := [(ou, .inl (co, 1, .inr (.inl g_4)))]) ⟨hx, hb, hml, hown, hts⟩ (c_X10_vat l dC dI sa hlt _ m0 md mq fs (xs 1) (xs 2) hfs) (cwV 2 hts gL_law_X10_vat rfl rfl rfl (by decide +kernel) ⟨Nat.le_of_ble_eq_true rfl, Nat.le_of_ble_eq_true rfl⟩) hP hD hK hS hA hev [0, 1, 2, 3, 4, 5, 6] [7] [1, 2, 3, 4, 5, 6] rfl rfl rfl rfl (by decide) rfl 0 10 rfl rfl rfl rfl hl.1 rfl (Nat.le_of_ble_eq_true rfl) dL_law_1078 ⟨Nat.le_of_ble_eq_true rfl, Nat.le_of_ble_eq_true rfl⟩ (fun r u H locs hw hP hD hK hS => ?_)
  obtain ⟨x_8, J_9⟩ := u
  have hw : r = some (.int x_8) ∧ (E_vat (xs 1) (xs 2) = (J_9 0, x_8)) := hw
  obtain ⟨rfl, hw_10⟩ := hw
  have hP : va_P (dC, dI) vwCl [(ou, .inl (co, 1, .inr (.inl g_4))), (m0, .inr (10, [.int (J_9 0), .int (J_9 1), .int (J_9 2), .int (J_9 3), .ref (md 4), .ref (md 5), .ref (md 6), .ref (md 7), .ref (md 8), .ref (md 9), .ref (md 10), .ref (md 11), .int (J_9 12), .ref (md 13), .ref (md 14), .ref (md 15), .ref (md 16), .ref (md 17), .ref (md 18), .ref (md 19), .int (J_9 20), .int (J_9 21), .int (J_9 22), .int (J_9 23), .int (J_9 24), .int (J_9 25), .ref (md 26), .ref (md 27), .ref (md 28), .ref (md 29), .ref (md 30), .ref (md 31), .ref (md 32), .ref (md 33), .ref (md 34), .ref (md 35), .int (J_9 36), .int (J_9 37), .int (J_9 38), .int (J_9 39), .int (J_9 40), .int (J_9 41), .int (J_9 42), .int (J_9 43), .int (J_9 44), .int (J_9 45), .int (J_9 46), .ref (md 47), .ref (md 48), .ref (md 49), .ref (md 50)]))] _ := hP
  have hD : va_D _ [(ou, .inl (co, 1, .inr (.inl g_4))), (m0, .inr (10, [.int (J_9 0), .int (J_9 1), .int (J_9 2), .int (J_9 3), .ref (md 4), .ref (md 5), .ref (md 6), .ref (md 7), .ref (md 8), .ref (md 9), .ref (md 10), .ref (md 11), .int (J_9 12), .ref (md 13), .ref (md 14), .ref (md 15), .ref (md 16), .ref (md 17), .ref (md 18), .ref (md 19), .int (J_9 20), .int (J_9 21), .int (J_9 22), .int (J_9 23), .int (J_9 24), .int (J_9 25), .ref (md 26), .ref (md 27), .ref (md 28), .ref (md 29), .ref (md 30), .ref (md 31), .ref (md 32), .ref (md 33), .ref (md 34), .ref (md 35), .int (J_9 36), .int (J_9 37), .int (J_9 38), .int (J_9 39), .int (J_9 40), .int (J_9 41), .int (J_9 42), .int (J_9 43), .int (J_9 44), .int (J_9 45), .int (J_9 46), .ref (md 47), .ref (md 48), .ref (md 49), .ref (md 50)]))] := hD
  have hK : va_K (dC, dI) vwCl [((ca 1), .object "VatHouse$Vat"), ((mq 4), .int), ((mq 5), .int), ((mq 6), .int), ((mq 7), .int), ((mq 8), .int), ((mq 9), .int), (co, .long)] s := hK
  refine W.eq (g2 := F0 m 1081 ls [.int x_8]) rfl ?_
  obtain ⟨y9, hE1, hE2⟩ := hw_5
  obtain ⟨hk9, hy9⟩ := Prod.mk.inj (hE1.symm.trans hw_10)
  refine lv_istore (lv' := [(6, .int x_8), (5, .int k_3), (4, .int 0), (3, .ref ou), (2, .ref m0), (1, .ref x0), (0, .ref b)]) hx hb dL_law_1081 hl (by decide) rfl (fun ls hl => ?_)
  refine lv_aload_n hx hb dL_law_1083 rfl (lv_at hl 4 rfl) ?_
  refine go_V (wr := [(ou, .inl (co, 1, .inr (.inl g_4)))]) ⟨hx, hb, hml, hown, hts⟩ (c_X10_thrown l dC dI sa hlt _ m0 md J_9 ) (cwV 0 hts gL_law_X10_thrown rfl rfl rfl (by decide +kernel) ⟨Nat.le_of_ble_eq_true rfl, Nat.le_of_ble_eq_true rfl⟩) hP hD hK hS hA hev [1] [0] [] rfl rfl rfl rfl (by decide) rfl 1 10 rfl rfl rfl rfl hl.1 rfl (Nat.le_of_ble_eq_true rfl) dL_law_1084 ⟨Nat.le_of_ble_eq_true rfl, Nat.le_of_ble_eq_true rfl⟩ (fun r u H locs hw hP hD hK hS => ?_)
  have hw : r = some (.int (J_9 0)) ∧ (True) := hw
  obtain ⟨rfl, hw_11⟩ := hw
  have hP : va_P (dC, dI) vwCl [(ou, .inl (co, 1, .inr (.inl g_4))), (m0, .inr (10, [.int (J_9 0), .int (J_9 1), .int (J_9 2), .int (J_9 3), .ref (md 4), .ref (md 5), .ref (md 6), .ref (md 7), .ref (md 8), .ref (md 9), .ref (md 10), .ref (md 11), .int (J_9 12), .ref (md 13), .ref (md 14), .ref (md 15), .ref (md 16), .ref (md 17), .ref (md 18), .ref (md 19), .int (J_9 20), .int (J_9 21), .int (J_9 22), .int (J_9 23), .int (J_9 24), .int (J_9 25), .ref (md 26), .ref (md 27), .ref (md 28), .ref (md 29), .ref (md 30), .ref (md 31), .ref (md 32), .ref (md 33), .ref (md 34), .ref (md 35), .int (J_9 36), .int (J_9 37), .int (J_9 38), .int (J_9 39), .int (J_9 40), .int (J_9 41), .int (J_9 42), .int (J_9 43), .int (J_9 44), .int (J_9 45), .int (J_9 46), .ref (md 47), .ref (md 48), .ref (md 49), .ref (md 50)]))] _ := hP
  have hD : va_D _ [(ou, .inl (co, 1, .inr (.inl g_4))), (m0, .inr (10, [.int (J_9 0), .int (J_9 1), .int (J_9 2), .int (J_9 3), .ref (md 4), .ref (md 5), .ref (md 6), .ref (md 7), .ref (md 8), .ref (md 9), .ref (md 10), .ref (md 11), .int (J_9 12), .ref (md 13), .ref (md 14), .ref (md 15), .ref (md 16), .ref (md 17), .ref (md 18), .ref (md 19), .int (J_9 20), .int (J_9 21), .int (J_9 22), .int (J_9 23), .int (J_9 24), .int (J_9 25), .ref (md 26), .ref (md 27), .ref (md 28), .ref (md 29), .ref (md 30), .ref (md 31), .ref (md 32), .ref (md 33), .ref (md 34), .ref (md 35), .int (J_9 36), .int (J_9 37), .int (J_9 38), .int (J_9 39), .int (J_9 40), .int (J_9 41), .int (J_9 42), .int (J_9 43), .int (J_9 44), .int (J_9 45), .int (J_9 46), .ref (md 47), .ref (md 48), .ref (md 49), .ref (md 50)]))] := hD
  have hK : va_K (dC, dI) vwCl [((ca 1), .object "VatHouse$Vat"), ((mq 4), .int), ((mq 5), .int), ((mq 6), .int), ((mq 7), .int), ((mq 8), .int), ((mq 9), .int), (co, .long)] s := hK
  refine W.eq (g2 := F0 m 1087 ls [.int (J_9 0)]) rfl ?_
  refine lv_iload hx hb dL_law_1087 (lv_at hl 1 rfl) ?_
  refine lv_icmp_eq (tgt := 1094) hx hb dL_law_1089 (by decide) (fun c_12 => ?_) (fun c_12 => ?_)
  rotate_left
  · exact absurd c_12 (fun h => h hk9.symm)
  refine lv_iload hx hb dL_law_1094 (lv_at hl 1 rfl) ?_
  refine lv_if_ne (tgt := 1111) hx hb dL_law_1096 (by decide) (fun c_13 => ?_) (fun c_13 => ?_)
  · refine lv_goto (tgt := 1386) hx hb dL_law_1111 (by decide) ?_
    exact law_end (dC := dC) (dI := dI) hlt C0 hev hS (Nat.le_of_ble_eq_true rfl) (Nat.le_of_ble_eq_true rfl) (lv_sub hl [2, 6] rfl)
  · refine lv_aload_n hx hb dL_law_1099 rfl (lv_at hl 3 rfl) ?_
    refine lv_iconst (v := 0) hx hb dL_law_1100 (by decide) ?_
    refine va_lald hx hb hK hP 0 7 rfl rfl (by unfold vp_in; decide) dL_law_1101 ?_
    refine lv_iload hx hb dL_law_1102 (lv_at hl 0 rfl) ?_
    refine lv_i2l (v := (x_8).toInt64) hx hb dL_law_1104 rfl ?_
    refine W.lcmp hx hb dL_law_1105 ?_
    refine lv_topi (fun z_14 ez_14 => ?_)
    refine lv_if_eq (tgt := 1111) hx hb dL_law_1106 (by decide) (fun c_15 => ?_) (fun c_15 => ?_)
    rotate_left
    · exact absurd c_15 (fun h => h (ez_14.trans (lgc ((hE2 c_13).trans (by rw [hy9])))))
    refine lv_goto (tgt := 1386) hx hb dL_law_1111 (by decide) ?_
    exact law_end (dC := dC) (dI := dI) hlt C0 hev hS (Nat.le_of_ble_eq_true rfl) (Nat.le_of_ble_eq_true rfl) (lv_sub hl [2, 6] rfl)

set_option maxHeartbeats 4000000 in
set_option maxRecDepth 100000 in
theorem law_about {p : Program} {l : Launch} {e : Env} {s : State} {m : MethodId} {below : List Frame} {meth : Method} {c : Code} {b : Nat} {xs : Nat → Int32} (hlt : l.stackTraces = false) (C0 : lw_At p s m meth c b 6 xs) {dC : Nat → ClassId} {dI : Nat → Nat → Nat} {sa : Nat → Nat} (hev : ev sa (fun q : Nat => s.heap.size ≤ q) s s.heap) {H : Heap} {locs : List Loc} {ls : Array Slot} {x0 m0 ou : Nat} {co : ClassId} {ad : Nat → Nat} {md : Nat → Nat} (hK : va_K (dC, dI) vwCl [(co, .long)] s) (hP : va_P (dC, dI) vwCl [(x0, .inr (9, [.ref (ad 0), .ref (ad 8), .int 0, .int 0, .ref (ad 9), .int 0, .ref (ad 10), .ref (ad 15), .int 0, .ref (ad 16), .ref (ad 17)])), (m0, .inr (10, [.int 0, .int 0, .int 0, .int 0, .ref (md 4), .ref (md 5), .ref (md 6), .ref (md 7), .ref (md 8), .ref (md 9), .ref (md 10), .ref (md 11), .int 0, .ref (md 13), .ref (md 14), .ref (md 15), .ref (md 16), .ref (md 17), .ref (md 18), .ref (md 19), .int 0, .int 0, .int 0, .int 0, .int (-1), .int 0, .ref (md 26), .ref (md 27), .ref (md 28), .ref (md 29), .ref (md 30), .ref (md 31), .ref (md 32), .ref (md 33), .ref (md 34), .ref (md 35), .int 0, .int 0, .int 0, .int 0, .int 0, .int 0, .int 0, .int 0, .int (-1), .int 0, .int 0, .ref (md 47), .ref (md 48), .ref (md 49), .ref (md 50)])), (ou, .inl (co, 1, .inr (.inl (fun _ => 0))))] H) (hD : va_D (fun q : Nat => s.heap.size ≤ q) [(x0, .inr (9, [.ref (ad 0), .ref (ad 8), .int 0, .int 0, .ref (ad 9), .int 0, .ref (ad 10), .ref (ad 15), .int 0, .ref (ad 16), .ref (ad 17)])), (m0, .inr (10, [.int 0, .int 0, .int 0, .int 0, .ref (md 4), .ref (md 5), .ref (md 6), .ref (md 7), .ref (md 8), .ref (md 9), .ref (md 10), .ref (md 11), .int 0, .ref (md 13), .ref (md 14), .ref (md 15), .ref (md 16), .ref (md 17), .ref (md 18), .ref (md 19), .int 0, .int 0, .int 0, .int 0, .int (-1), .int 0, .ref (md 26), .ref (md 27), .ref (md 28), .ref (md 29), .ref (md 30), .ref (md 31), .ref (md 32), .ref (md 33), .ref (md 34), .ref (md 35), .int 0, .int 0, .int 0, .int 0, .int 0, .int 0, .int 0, .int 0, .int (-1), .int 0, .int 0, .ref (md 47), .ref (md 48), .ref (md 49), .ref (md 50)])), (ou, .inl (co, 1, .inr (.inl (fun _ => 0))))]) (hS : va_S (fun q : Nat => s.heap.size ≤ q) s.heap H locs) (hl : lv_has ls 7 [(4, .int 0), (3, .ref ou), (2, .ref m0), (1, .ref x0), (0, .ref b)]) : W p l e room_1 s m #[Value.ref b] below meth c H locs 61 29719 (lw_Z below #[Value.ref b] s) (F0 m 1114 ls []) := by
  obtain ⟨hx, hb, hr, hml, hown, hts, hX, hbl, hlocks, hgv⟩ := id C0
  have hown : s.vm.findClass RL = some m.cls := hown
  have hA : ∀ q : Nat, s.heap.size ≤ q → (fun q : Nat => s.heap.size ≤ q) q := fun _ h => h
  have hbA : ¬ (fun q : Nat => s.heap.size ≤ q) b := Nat.not_le.mpr hbl
  refine lv_aload_n hx hb dL_law_1114 rfl (lv_at hl 3 rfl) ?_
  refine lv_aload_n hx hb dL_law_1115 rfl (lv_at hl 4 rfl) ?_
  refine lv_iload hx hb dL_law_1116 (lv_at hl 0 rfl) ?_
  refine lv_iconst (v := 1) hx hb dL_law_1118 (by decide) ?_
  refine lv_iadd hx hb dL_law_1119 ?_
  refine lv_topi (fun z_1 ez_1 => ?_)
  obtain rfl : z_1 = 1 := ez_1.trans (by decide)
  refine va_sld hx hb hX hbl hbA hS (by unfold vp_in; decide) dL_law_1120 ?_
  refine W.eq (g2 := F0 m 1121 ls [.int (xs 1), .ref x0]) rfl ?_
  refine lv_aload_n hx hb dL_law_1121 rfl (lv_at hl 4 rfl) ?_
  refine lv_iload hx hb dL_law_1122 (lv_at hl 0 rfl) ?_
  refine lv_iconst (v := 2) hx hb dL_law_1124 (by decide) ?_
  refine lv_iadd hx hb dL_law_1125 ?_
  refine lv_topi (fun z_2 ez_2 => ?_)
  obtain rfl : z_2 = 2 := ez_2.trans (by decide)
  refine va_sld hx hb hX hbl hbA hS (by unfold vp_in; decide) dL_law_1126 ?_
  refine W.eq (g2 := F0 m 1127 ls [.int (xs 2), .int (xs 1), .ref x0]) rfl ?_
  refine lv_aload_n hx hb dL_law_1127 rfl (lv_at hl 1 rfl) ?_
  refine go_SW (wr := [(m0, .inr (10, [.int 0, .int 0, .int 0, .int 0, .ref (md 4), .ref (md 5), .ref (md 6), .ref (md 7), .ref (md 8), .ref (md 9), .ref (md 10), .ref (md 11), .int 0, .ref (md 13), .ref (md 14), .ref (md 15), .ref (md 16), .ref (md 17), .ref (md 18), .ref (md 19), .int 0, .int 0, .int 0, .int 0, .int (-1), .int 0, .ref (md 26), .ref (md 27), .ref (md 28), .ref (md 29), .ref (md 30), .ref (md 31), .ref (md 32), .ref (md 33), .ref (md 34), .ref (md 35), .int 0, .int 0, .int 0, .int 0, .int 0, .int 0, .int 0, .int 0, .int (-1), .int 0, .int 0, .ref (md 47), .ref (md 48), .ref (md 49), .ref (md 50)]))]) ⟨hx, hb, hml, hown, hts⟩ (c_L_about l dC dI sa hlt _ x0 ad ou co (fun _ => 0) (xs 1) (xs 2) ) (vx_cwSW 4 hts gL_law_L_about rfl rfl rfl (by decide +kernel) ⟨Nat.le_of_ble_eq_true rfl, Nat.le_of_ble_eq_true rfl⟩) hP hD hK hS hA hev [0, 2] [1] [0] rfl rfl rfl rfl (by decide) rfl rfl hl.1 rfl (Nat.le_of_ble_eq_true rfl) dL_law_1128 ⟨Nat.le_of_ble_eq_true rfl, Nat.le_of_ble_eq_true rfl⟩ (fun r u H locs hw hP hD hK hS => ?_)
  obtain ⟨k_3, g_4⟩ := u
  have hw : r = some (.int k_3) ∧ (k_3 = 1) := hw
  obtain ⟨rfl, hw_5⟩ := hw
  have hP : va_P (dC, dI) vwCl [(m0, .inr (10, [.int 0, .int 0, .int 0, .int 0, .ref (md 4), .ref (md 5), .ref (md 6), .ref (md 7), .ref (md 8), .ref (md 9), .ref (md 10), .ref (md 11), .int 0, .ref (md 13), .ref (md 14), .ref (md 15), .ref (md 16), .ref (md 17), .ref (md 18), .ref (md 19), .int 0, .int 0, .int 0, .int 0, .int (-1), .int 0, .ref (md 26), .ref (md 27), .ref (md 28), .ref (md 29), .ref (md 30), .ref (md 31), .ref (md 32), .ref (md 33), .ref (md 34), .ref (md 35), .int 0, .int 0, .int 0, .int 0, .int 0, .int 0, .int 0, .int 0, .int (-1), .int 0, .int 0, .ref (md 47), .ref (md 48), .ref (md 49), .ref (md 50)])), (ou, .inl (co, 1, .inr (.inl g_4)))] _ := hP
  have hD : va_D _ [(m0, .inr (10, [.int 0, .int 0, .int 0, .int 0, .ref (md 4), .ref (md 5), .ref (md 6), .ref (md 7), .ref (md 8), .ref (md 9), .ref (md 10), .ref (md 11), .int 0, .ref (md 13), .ref (md 14), .ref (md 15), .ref (md 16), .ref (md 17), .ref (md 18), .ref (md 19), .int 0, .int 0, .int 0, .int 0, .int (-1), .int 0, .ref (md 26), .ref (md 27), .ref (md 28), .ref (md 29), .ref (md 30), .ref (md 31), .ref (md 32), .ref (md 33), .ref (md 34), .ref (md 35), .int 0, .int 0, .int 0, .int 0, .int 0, .int 0, .int 0, .int 0, .int (-1), .int 0, .int 0, .ref (md 47), .ref (md 48), .ref (md 49), .ref (md 50)])), (ou, .inl (co, 1, .inr (.inl g_4)))] := hD
  have hK : va_K (dC, dI) vwCl [(co, .long)] s := hK
  refine W.eq (g2 := F0 m 1131 ls [.int k_3]) rfl ?_
  refine lv_istore (lv' := [(5, .int k_3), (4, .int 0), (3, .ref ou), (2, .ref m0), (1, .ref x0), (0, .ref b)]) hx hb dL_law_1131 hl (by decide) rfl (fun ls hl => ?_)
  refine lv_aload_n hx hb dL_law_1133 rfl (lv_at hl 3 rfl) ?_
  refine lv_aload_n hx hb dL_law_1134 rfl (lv_at hl 5 rfl) ?_
  refine lv_iload hx hb dL_law_1135 (lv_at hl 1 rfl) ?_
  refine lv_iconst (v := 1) hx hb dL_law_1137 (by decide) ?_
  refine lv_iadd hx hb dL_law_1138 ?_
  refine lv_topi (fun z_6 ez_6 => ?_)
  obtain rfl : z_6 = 1 := ez_6.trans (by decide)
  refine va_sld hx hb hX hbl hbA hS (by unfold vp_in; decide) dL_law_1139 ?_
  refine W.eq (g2 := F0 m 1140 ls [.int (xs 1), .ref m0]) rfl ?_
  refine lv_aload_n hx hb dL_law_1140 rfl (lv_at hl 5 rfl) ?_
  refine lv_iload hx hb dL_law_1141 (lv_at hl 1 rfl) ?_
  refine lv_iconst (v := 2) hx hb dL_law_1143 (by decide) ?_
  refine lv_iadd hx hb dL_law_1144 ?_
  refine lv_topi (fun z_7 ez_7 => ?_)
  obtain rfl : z_7 = 2 := ez_7.trans (by decide)
  refine va_sld hx hb hX hbl hbA hS (by unfold vp_in; decide) dL_law_1145 ?_
  refine W.eq (g2 := F0 m 1146 ls [.int (xs 2), .int (xs 1), .ref m0]) rfl ?_
  refine go_V (wr := [(ou, .inl (co, 1, .inr (.inl g_4)))]) ⟨hx, hb, hml, hown, hts⟩ (c_X10_about l dC dI sa hlt _ m0 md (xs 1) (xs 2) ) (cwV 2 hts gL_law_X10_about rfl rfl rfl (by decide +kernel) ⟨Nat.le_of_ble_eq_true rfl, Nat.le_of_ble_eq_true rfl⟩) hP hD hK hS hA hev [0] [1] [] rfl rfl rfl rfl (by decide) rfl 0 10 rfl rfl rfl rfl hl.1 rfl (Nat.le_of_ble_eq_true rfl) dL_law_1146 ⟨Nat.le_of_ble_eq_true rfl, Nat.le_of_ble_eq_true rfl⟩ (fun r u H locs hw hP hD hK hS => ?_)
  obtain ⟨x_8, J_9⟩ := u
  have hw : r = some (.int x_8) ∧ (J_9 0 = 1) := hw
  obtain ⟨rfl, hw_10⟩ := hw
  have hP : va_P (dC, dI) vwCl [(ou, .inl (co, 1, .inr (.inl g_4))), (m0, .inr (10, [.int (J_9 0), .int (J_9 1), .int (J_9 2), .int (J_9 3), .ref (md 4), .ref (md 5), .ref (md 6), .ref (md 7), .ref (md 8), .ref (md 9), .ref (md 10), .ref (md 11), .int (J_9 12), .ref (md 13), .ref (md 14), .ref (md 15), .ref (md 16), .ref (md 17), .ref (md 18), .ref (md 19), .int (J_9 20), .int (J_9 21), .int (J_9 22), .int (J_9 23), .int (J_9 24), .int (J_9 25), .ref (md 26), .ref (md 27), .ref (md 28), .ref (md 29), .ref (md 30), .ref (md 31), .ref (md 32), .ref (md 33), .ref (md 34), .ref (md 35), .int (J_9 36), .int (J_9 37), .int (J_9 38), .int (J_9 39), .int (J_9 40), .int (J_9 41), .int (J_9 42), .int (J_9 43), .int (J_9 44), .int (J_9 45), .int (J_9 46), .ref (md 47), .ref (md 48), .ref (md 49), .ref (md 50)]))] _ := hP
  have hD : va_D _ [(ou, .inl (co, 1, .inr (.inl g_4))), (m0, .inr (10, [.int (J_9 0), .int (J_9 1), .int (J_9 2), .int (J_9 3), .ref (md 4), .ref (md 5), .ref (md 6), .ref (md 7), .ref (md 8), .ref (md 9), .ref (md 10), .ref (md 11), .int (J_9 12), .ref (md 13), .ref (md 14), .ref (md 15), .ref (md 16), .ref (md 17), .ref (md 18), .ref (md 19), .int (J_9 20), .int (J_9 21), .int (J_9 22), .int (J_9 23), .int (J_9 24), .int (J_9 25), .ref (md 26), .ref (md 27), .ref (md 28), .ref (md 29), .ref (md 30), .ref (md 31), .ref (md 32), .ref (md 33), .ref (md 34), .ref (md 35), .int (J_9 36), .int (J_9 37), .int (J_9 38), .int (J_9 39), .int (J_9 40), .int (J_9 41), .int (J_9 42), .int (J_9 43), .int (J_9 44), .int (J_9 45), .int (J_9 46), .ref (md 47), .ref (md 48), .ref (md 49), .ref (md 50)]))] := hD
  have hK : va_K (dC, dI) vwCl [(co, .long)] s := hK
  refine W.eq (g2 := F0 m 1149 ls [.int x_8]) rfl ?_
  have hk9 := hw_5.trans hw_10.symm
  refine lv_istore (lv' := [(6, .int x_8), (5, .int k_3), (4, .int 0), (3, .ref ou), (2, .ref m0), (1, .ref x0), (0, .ref b)]) hx hb dL_law_1149 hl (by decide) rfl (fun ls hl => ?_)
  refine lv_aload_n hx hb dL_law_1151 rfl (lv_at hl 4 rfl) ?_
  refine go_V (wr := [(ou, .inl (co, 1, .inr (.inl g_4)))]) ⟨hx, hb, hml, hown, hts⟩ (c_X10_thrown l dC dI sa hlt _ m0 md J_9 ) (cwV 0 hts gL_law_X10_thrown rfl rfl rfl (by decide +kernel) ⟨Nat.le_of_ble_eq_true rfl, Nat.le_of_ble_eq_true rfl⟩) hP hD hK hS hA hev [1] [0] [] rfl rfl rfl rfl (by decide) rfl 1 10 rfl rfl rfl rfl hl.1 rfl (Nat.le_of_ble_eq_true rfl) dL_law_1152 ⟨Nat.le_of_ble_eq_true rfl, Nat.le_of_ble_eq_true rfl⟩ (fun r u H locs hw hP hD hK hS => ?_)
  have hw : r = some (.int (J_9 0)) ∧ (True) := hw
  obtain ⟨rfl, hw_11⟩ := hw
  have hP : va_P (dC, dI) vwCl [(ou, .inl (co, 1, .inr (.inl g_4))), (m0, .inr (10, [.int (J_9 0), .int (J_9 1), .int (J_9 2), .int (J_9 3), .ref (md 4), .ref (md 5), .ref (md 6), .ref (md 7), .ref (md 8), .ref (md 9), .ref (md 10), .ref (md 11), .int (J_9 12), .ref (md 13), .ref (md 14), .ref (md 15), .ref (md 16), .ref (md 17), .ref (md 18), .ref (md 19), .int (J_9 20), .int (J_9 21), .int (J_9 22), .int (J_9 23), .int (J_9 24), .int (J_9 25), .ref (md 26), .ref (md 27), .ref (md 28), .ref (md 29), .ref (md 30), .ref (md 31), .ref (md 32), .ref (md 33), .ref (md 34), .ref (md 35), .int (J_9 36), .int (J_9 37), .int (J_9 38), .int (J_9 39), .int (J_9 40), .int (J_9 41), .int (J_9 42), .int (J_9 43), .int (J_9 44), .int (J_9 45), .int (J_9 46), .ref (md 47), .ref (md 48), .ref (md 49), .ref (md 50)]))] _ := hP
  have hD : va_D _ [(ou, .inl (co, 1, .inr (.inl g_4))), (m0, .inr (10, [.int (J_9 0), .int (J_9 1), .int (J_9 2), .int (J_9 3), .ref (md 4), .ref (md 5), .ref (md 6), .ref (md 7), .ref (md 8), .ref (md 9), .ref (md 10), .ref (md 11), .int (J_9 12), .ref (md 13), .ref (md 14), .ref (md 15), .ref (md 16), .ref (md 17), .ref (md 18), .ref (md 19), .int (J_9 20), .int (J_9 21), .int (J_9 22), .int (J_9 23), .int (J_9 24), .int (J_9 25), .ref (md 26), .ref (md 27), .ref (md 28), .ref (md 29), .ref (md 30), .ref (md 31), .ref (md 32), .ref (md 33), .ref (md 34), .ref (md 35), .int (J_9 36), .int (J_9 37), .int (J_9 38), .int (J_9 39), .int (J_9 40), .int (J_9 41), .int (J_9 42), .int (J_9 43), .int (J_9 44), .int (J_9 45), .int (J_9 46), .ref (md 47), .ref (md 48), .ref (md 49), .ref (md 50)]))] := hD
  have hK : va_K (dC, dI) vwCl [(co, .long)] s := hK
  refine W.eq (g2 := F0 m 1155 ls [.int (J_9 0)]) rfl ?_
  refine lv_iload hx hb dL_law_1155 (lv_at hl 1 rfl) ?_
  refine lv_icmp_eq (tgt := 1162) hx hb dL_law_1157 (by decide) (fun c_12 => ?_) (fun c_12 => ?_)
  rotate_left
  · exact absurd c_12 (fun h => h hk9.symm)
  refine lv_iload hx hb dL_law_1162 (lv_at hl 1 rfl) ?_
  refine lv_if_ne (tgt := 1179) hx hb dL_law_1164 (by decide) (fun c_13 => ?_) (fun c_13 => ?_)
  rotate_left
  · exact absurd c_13 (by rw [hw_5]; decide)
  refine lv_goto (tgt := 1386) hx hb dL_law_1179 (by decide) ?_
  exact law_end (dC := dC) (dI := dI) hlt C0 hev hS (Nat.le_of_ble_eq_true rfl) (Nat.le_of_ble_eq_true rfl) (lv_sub hl [2, 6] rfl)

set_option maxHeartbeats 4000000 in
set_option maxRecDepth 100000 in
theorem law_count {p : Program} {l : Launch} {e : Env} {s : State} {m : MethodId} {below : List Frame} {meth : Method} {c : Code} {b : Nat} {xs : Nat → Int32} (hlt : l.stackTraces = false) (C0 : lw_At p s m meth c b 6 xs) {dC : Nat → ClassId} {dI : Nat → Nat → Nat} {sa : Nat → Nat} (hev : ev sa (fun q : Nat => s.heap.size ≤ q) s s.heap) {H : Heap} {locs : List Loc} {ls : Array Slot} {x0 m0 ou : Nat} {co : ClassId} {ad : Nat → Nat} {md : Nat → Nat} {mq : Nat → ClassId} (hK : va_K (dC, dI) vwCl [(co, .long)] s) (hP : va_P (dC, dI) vwCl [(x0, .inr (9, [.ref (ad 0), .ref (ad 8), .int 0, .int 0, .ref (ad 9), .int 0, .ref (ad 10), .ref (ad 15), .int 0, .ref (ad 16), .ref (ad 17)])), ((ad 0), .inr (8, [.ref (ad 1), .int 0, .int 0])), (m0, .inr (10, [.int 0, .int 0, .int 0, .int 0, .ref (md 4), .ref (md 5), .ref (md 6), .ref (md 7), .ref (md 8), .ref (md 9), .ref (md 10), .ref (md 11), .int 0, .ref (md 13), .ref (md 14), .ref (md 15), .ref (md 16), .ref (md 17), .ref (md 18), .ref (md 19), .int 0, .int 0, .int 0, .int 0, .int (-1), .int 0, .ref (md 26), .ref (md 27), .ref (md 28), .ref (md 29), .ref (md 30), .ref (md 31), .ref (md 32), .ref (md 33), .ref (md 34), .ref (md 35), .int 0, .int 0, .int 0, .int 0, .int 0, .int 0, .int 0, .int 0, .int (-1), .int 0, .int 0, .ref (md 47), .ref (md 48), .ref (md 49), .ref (md 50)])), (ou, .inl (co, 1, .inr (.inl (fun _ => 0))))] H) (hD : va_D (fun q : Nat => s.heap.size ≤ q) [(x0, .inr (9, [.ref (ad 0), .ref (ad 8), .int 0, .int 0, .ref (ad 9), .int 0, .ref (ad 10), .ref (ad 15), .int 0, .ref (ad 16), .ref (ad 17)])), ((ad 0), .inr (8, [.ref (ad 1), .int 0, .int 0])), (m0, .inr (10, [.int 0, .int 0, .int 0, .int 0, .ref (md 4), .ref (md 5), .ref (md 6), .ref (md 7), .ref (md 8), .ref (md 9), .ref (md 10), .ref (md 11), .int 0, .ref (md 13), .ref (md 14), .ref (md 15), .ref (md 16), .ref (md 17), .ref (md 18), .ref (md 19), .int 0, .int 0, .int 0, .int 0, .int (-1), .int 0, .ref (md 26), .ref (md 27), .ref (md 28), .ref (md 29), .ref (md 30), .ref (md 31), .ref (md 32), .ref (md 33), .ref (md 34), .ref (md 35), .int 0, .int 0, .int 0, .int 0, .int 0, .int 0, .int 0, .int 0, .int (-1), .int 0, .int 0, .ref (md 47), .ref (md 48), .ref (md 49), .ref (md 50)])), (ou, .inl (co, 1, .inr (.inl (fun _ => 0))))]) (hS : va_S (fun q : Nat => s.heap.size ≤ q) s.heap H locs) (hl : lv_has ls 7 [(4, .int 0), (3, .ref ou), (2, .ref m0), (1, .ref x0), (0, .ref b)]) : W p l e room_1 s m #[Value.ref b] below meth c H locs 61 29719 (lw_Z below #[Value.ref b] s) (F0 m 1182 ls []) := by
  obtain ⟨hx, hb, hr, hml, hown, hts, hX, hbl, hlocks, hgv⟩ := id C0
  have hown : s.vm.findClass RL = some m.cls := hown
  have hA : ∀ q : Nat, s.heap.size ≤ q → (fun q : Nat => s.heap.size ≤ q) q := fun _ h => h
  have hbA : ¬ (fun q : Nat => s.heap.size ≤ q) b := Nat.not_le.mpr hbl
  refine lv_aload_n hx hb dL_law_1182 rfl (lv_at hl 3 rfl) ?_
  refine lv_aload_n hx hb dL_law_1183 rfl (lv_at hl 4 rfl) ?_
  refine lv_iload hx hb dL_law_1184 (lv_at hl 0 rfl) ?_
  refine lv_iconst (v := 1) hx hb dL_law_1186 (by decide) ?_
  refine lv_iadd hx hb dL_law_1187 ?_
  refine lv_topi (fun z_1 ez_1 => ?_)
  obtain rfl : z_1 = 1 := ez_1.trans (by decide)
  refine va_sld hx hb hX hbl hbA hS (by unfold vp_in; decide) dL_law_1188 ?_
  refine W.eq (g2 := F0 m 1189 ls [.int (xs 1), .ref x0]) rfl ?_
  refine lv_aload_n hx hb dL_law_1189 rfl (lv_at hl 1 rfl) ?_
  refine go_SW (wr := [(m0, .inr (10, [.int 0, .int 0, .int 0, .int 0, .ref (md 4), .ref (md 5), .ref (md 6), .ref (md 7), .ref (md 8), .ref (md 9), .ref (md 10), .ref (md 11), .int 0, .ref (md 13), .ref (md 14), .ref (md 15), .ref (md 16), .ref (md 17), .ref (md 18), .ref (md 19), .int 0, .int 0, .int 0, .int 0, .int (-1), .int 0, .ref (md 26), .ref (md 27), .ref (md 28), .ref (md 29), .ref (md 30), .ref (md 31), .ref (md 32), .ref (md 33), .ref (md 34), .ref (md 35), .int 0, .int 0, .int 0, .int 0, .int 0, .int 0, .int 0, .int 0, .int (-1), .int 0, .int 0, .ref (md 47), .ref (md 48), .ref (md 49), .ref (md 50)]))]) ⟨hx, hb, hml, hown, hts⟩ (c_L_count l dC dI sa hlt _ x0 ad ou co (fun _ => 0) (xs 1) ) (vx_cwSW 3 hts gL_law_L_count rfl rfl rfl (by decide +kernel) ⟨Nat.le_of_ble_eq_true rfl, Nat.le_of_ble_eq_true rfl⟩) hP hD hK hS hA hev [0, 1, 3] [2] [0] rfl rfl rfl rfl (by decide) rfl rfl hl.1 rfl (Nat.le_of_ble_eq_true rfl) dL_law_1190 ⟨Nat.le_of_ble_eq_true rfl, Nat.le_of_ble_eq_true rfl⟩ (fun r u H locs hw hP hD hK hS => ?_)
  obtain ⟨k_2, g_3⟩ := u
  have hw : r = some (.int k_2) ∧ (∃ y : Int32, E_count (xs 1) = (k_2, y) ∧ (k_2 = 0 → g_3 0 = y.toInt64)) := hw
  obtain ⟨rfl, hw_4⟩ := hw
  have hP : va_P (dC, dI) vwCl [(m0, .inr (10, [.int 0, .int 0, .int 0, .int 0, .ref (md 4), .ref (md 5), .ref (md 6), .ref (md 7), .ref (md 8), .ref (md 9), .ref (md 10), .ref (md 11), .int 0, .ref (md 13), .ref (md 14), .ref (md 15), .ref (md 16), .ref (md 17), .ref (md 18), .ref (md 19), .int 0, .int 0, .int 0, .int 0, .int (-1), .int 0, .ref (md 26), .ref (md 27), .ref (md 28), .ref (md 29), .ref (md 30), .ref (md 31), .ref (md 32), .ref (md 33), .ref (md 34), .ref (md 35), .int 0, .int 0, .int 0, .int 0, .int 0, .int 0, .int 0, .int 0, .int (-1), .int 0, .int 0, .ref (md 47), .ref (md 48), .ref (md 49), .ref (md 50)])), (ou, .inl (co, 1, .inr (.inl g_3)))] _ := hP
  have hD : va_D _ [(m0, .inr (10, [.int 0, .int 0, .int 0, .int 0, .ref (md 4), .ref (md 5), .ref (md 6), .ref (md 7), .ref (md 8), .ref (md 9), .ref (md 10), .ref (md 11), .int 0, .ref (md 13), .ref (md 14), .ref (md 15), .ref (md 16), .ref (md 17), .ref (md 18), .ref (md 19), .int 0, .int 0, .int 0, .int 0, .int (-1), .int 0, .ref (md 26), .ref (md 27), .ref (md 28), .ref (md 29), .ref (md 30), .ref (md 31), .ref (md 32), .ref (md 33), .ref (md 34), .ref (md 35), .int 0, .int 0, .int 0, .int 0, .int 0, .int 0, .int 0, .int 0, .int (-1), .int 0, .int 0, .ref (md 47), .ref (md 48), .ref (md 49), .ref (md 50)])), (ou, .inl (co, 1, .inr (.inl g_3)))] := hD
  have hK : va_K (dC, dI) vwCl [(co, .long)] s := hK
  refine W.eq (g2 := F0 m 1193 ls [.int k_2]) rfl ?_
  refine lv_istore (lv' := [(5, .int k_2), (4, .int 0), (3, .ref ou), (2, .ref m0), (1, .ref x0), (0, .ref b)]) hx hb dL_law_1193 hl (by decide) rfl (fun ls hl => ?_)
  refine lv_aload_n hx hb dL_law_1195 rfl (lv_at hl 3 rfl) ?_
  refine lv_aload_n hx hb dL_law_1196 rfl (lv_at hl 5 rfl) ?_
  refine lv_iload hx hb dL_law_1197 (lv_at hl 1 rfl) ?_
  refine lv_iconst (v := 1) hx hb dL_law_1199 (by decide) ?_
  refine lv_iadd hx hb dL_law_1200 ?_
  refine lv_topi (fun z_5 ez_5 => ?_)
  obtain rfl : z_5 = 1 := ez_5.trans (by decide)
  refine va_sld hx hb hX hbl hbA hS (by unfold vp_in; decide) dL_law_1201 ?_
  refine W.eq (g2 := F0 m 1202 ls [.int (xs 1), .ref m0]) rfl ?_
  refine go_V (wr := [(ou, .inl (co, 1, .inr (.inl g_3)))]) ⟨hx, hb, hml, hown, hts⟩ (c_X10_count l dC dI sa hlt _ m0 md mq (xs 1) ) (cwV 1 hts gL_law_X10_count rfl rfl rfl (by decide +kernel) ⟨Nat.le_of_ble_eq_true rfl, Nat.le_of_ble_eq_true rfl⟩) hP hD hK hS hA hev [0] [1] [] rfl rfl rfl rfl (by decide) rfl 0 10 rfl rfl rfl rfl hl.1 rfl (Nat.le_of_ble_eq_true rfl) dL_law_1202 ⟨Nat.le_of_ble_eq_true rfl, Nat.le_of_ble_eq_true rfl⟩ (fun r u H locs hw hP hD hK hS => ?_)
  obtain ⟨x_6, J_7⟩ := u
  have hw : r = some (.int x_6) ∧ (E_count (xs 1) = (J_7 0, x_6)) := hw
  obtain ⟨rfl, hw_8⟩ := hw
  have hP : va_P (dC, dI) vwCl [(ou, .inl (co, 1, .inr (.inl g_3))), (m0, .inr (10, [.int (J_7 0), .int (J_7 1), .int (J_7 2), .int (J_7 3), .ref (md 4), .ref (md 5), .ref (md 6), .ref (md 7), .ref (md 8), .ref (md 9), .ref (md 10), .ref (md 11), .int (J_7 12), .ref (md 13), .ref (md 14), .ref (md 15), .ref (md 16), .ref (md 17), .ref (md 18), .ref (md 19), .int (J_7 20), .int (J_7 21), .int (J_7 22), .int (J_7 23), .int (J_7 24), .int (J_7 25), .ref (md 26), .ref (md 27), .ref (md 28), .ref (md 29), .ref (md 30), .ref (md 31), .ref (md 32), .ref (md 33), .ref (md 34), .ref (md 35), .int (J_7 36), .int (J_7 37), .int (J_7 38), .int (J_7 39), .int (J_7 40), .int (J_7 41), .int (J_7 42), .int (J_7 43), .int (J_7 44), .int (J_7 45), .int (J_7 46), .ref (md 47), .ref (md 48), .ref (md 49), .ref (md 50)]))] _ := hP
  have hD : va_D _ [(ou, .inl (co, 1, .inr (.inl g_3))), (m0, .inr (10, [.int (J_7 0), .int (J_7 1), .int (J_7 2), .int (J_7 3), .ref (md 4), .ref (md 5), .ref (md 6), .ref (md 7), .ref (md 8), .ref (md 9), .ref (md 10), .ref (md 11), .int (J_7 12), .ref (md 13), .ref (md 14), .ref (md 15), .ref (md 16), .ref (md 17), .ref (md 18), .ref (md 19), .int (J_7 20), .int (J_7 21), .int (J_7 22), .int (J_7 23), .int (J_7 24), .int (J_7 25), .ref (md 26), .ref (md 27), .ref (md 28), .ref (md 29), .ref (md 30), .ref (md 31), .ref (md 32), .ref (md 33), .ref (md 34), .ref (md 35), .int (J_7 36), .int (J_7 37), .int (J_7 38), .int (J_7 39), .int (J_7 40), .int (J_7 41), .int (J_7 42), .int (J_7 43), .int (J_7 44), .int (J_7 45), .int (J_7 46), .ref (md 47), .ref (md 48), .ref (md 49), .ref (md 50)]))] := hD
  have hK : va_K (dC, dI) vwCl [(co, .long)] s := hK
  refine W.eq (g2 := F0 m 1205 ls [.int x_6]) rfl ?_
  obtain ⟨y9, hE1, hE2⟩ := hw_4
  obtain ⟨hk9, hy9⟩ := Prod.mk.inj (hE1.symm.trans hw_8)
  refine lv_istore (lv' := [(6, .int x_6), (5, .int k_2), (4, .int 0), (3, .ref ou), (2, .ref m0), (1, .ref x0), (0, .ref b)]) hx hb dL_law_1205 hl (by decide) rfl (fun ls hl => ?_)
  refine lv_aload_n hx hb dL_law_1207 rfl (lv_at hl 4 rfl) ?_
  refine go_V (wr := [(ou, .inl (co, 1, .inr (.inl g_3)))]) ⟨hx, hb, hml, hown, hts⟩ (c_X10_thrown l dC dI sa hlt _ m0 md J_7 ) (cwV 0 hts gL_law_X10_thrown rfl rfl rfl (by decide +kernel) ⟨Nat.le_of_ble_eq_true rfl, Nat.le_of_ble_eq_true rfl⟩) hP hD hK hS hA hev [1] [0] [] rfl rfl rfl rfl (by decide) rfl 1 10 rfl rfl rfl rfl hl.1 rfl (Nat.le_of_ble_eq_true rfl) dL_law_1208 ⟨Nat.le_of_ble_eq_true rfl, Nat.le_of_ble_eq_true rfl⟩ (fun r u H locs hw hP hD hK hS => ?_)
  have hw : r = some (.int (J_7 0)) ∧ (True) := hw
  obtain ⟨rfl, hw_9⟩ := hw
  have hP : va_P (dC, dI) vwCl [(ou, .inl (co, 1, .inr (.inl g_3))), (m0, .inr (10, [.int (J_7 0), .int (J_7 1), .int (J_7 2), .int (J_7 3), .ref (md 4), .ref (md 5), .ref (md 6), .ref (md 7), .ref (md 8), .ref (md 9), .ref (md 10), .ref (md 11), .int (J_7 12), .ref (md 13), .ref (md 14), .ref (md 15), .ref (md 16), .ref (md 17), .ref (md 18), .ref (md 19), .int (J_7 20), .int (J_7 21), .int (J_7 22), .int (J_7 23), .int (J_7 24), .int (J_7 25), .ref (md 26), .ref (md 27), .ref (md 28), .ref (md 29), .ref (md 30), .ref (md 31), .ref (md 32), .ref (md 33), .ref (md 34), .ref (md 35), .int (J_7 36), .int (J_7 37), .int (J_7 38), .int (J_7 39), .int (J_7 40), .int (J_7 41), .int (J_7 42), .int (J_7 43), .int (J_7 44), .int (J_7 45), .int (J_7 46), .ref (md 47), .ref (md 48), .ref (md 49), .ref (md 50)]))] _ := hP
  have hD : va_D _ [(ou, .inl (co, 1, .inr (.inl g_3))), (m0, .inr (10, [.int (J_7 0), .int (J_7 1), .int (J_7 2), .int (J_7 3), .ref (md 4), .ref (md 5), .ref (md 6), .ref (md 7), .ref (md 8), .ref (md 9), .ref (md 10), .ref (md 11), .int (J_7 12), .ref (md 13), .ref (md 14), .ref (md 15), .ref (md 16), .ref (md 17), .ref (md 18), .ref (md 19), .int (J_7 20), .int (J_7 21), .int (J_7 22), .int (J_7 23), .int (J_7 24), .int (J_7 25), .ref (md 26), .ref (md 27), .ref (md 28), .ref (md 29), .ref (md 30), .ref (md 31), .ref (md 32), .ref (md 33), .ref (md 34), .ref (md 35), .int (J_7 36), .int (J_7 37), .int (J_7 38), .int (J_7 39), .int (J_7 40), .int (J_7 41), .int (J_7 42), .int (J_7 43), .int (J_7 44), .int (J_7 45), .int (J_7 46), .ref (md 47), .ref (md 48), .ref (md 49), .ref (md 50)]))] := hD
  have hK : va_K (dC, dI) vwCl [(co, .long)] s := hK
  refine W.eq (g2 := F0 m 1211 ls [.int (J_7 0)]) rfl ?_
  refine lv_iload hx hb dL_law_1211 (lv_at hl 1 rfl) ?_
  refine lv_icmp_eq (tgt := 1218) hx hb dL_law_1213 (by decide) (fun c_10 => ?_) (fun c_10 => ?_)
  rotate_left
  · exact absurd c_10 (fun h => h hk9.symm)
  refine lv_iload hx hb dL_law_1218 (lv_at hl 1 rfl) ?_
  refine lv_if_ne (tgt := 1235) hx hb dL_law_1220 (by decide) (fun c_11 => ?_) (fun c_11 => ?_)
  · refine lv_goto (tgt := 1386) hx hb dL_law_1235 (by decide) ?_
    exact law_end (dC := dC) (dI := dI) hlt C0 hev hS (Nat.le_of_ble_eq_true rfl) (Nat.le_of_ble_eq_true rfl) (lv_sub hl [2, 6] rfl)
  · refine lv_aload_n hx hb dL_law_1223 rfl (lv_at hl 3 rfl) ?_
    refine lv_iconst (v := 0) hx hb dL_law_1224 (by decide) ?_
    refine va_lald hx hb hK hP 0 0 rfl rfl (by unfold vp_in; decide) dL_law_1225 ?_
    refine lv_iload hx hb dL_law_1226 (lv_at hl 0 rfl) ?_
    refine lv_i2l (v := (x_6).toInt64) hx hb dL_law_1228 rfl ?_
    refine W.lcmp hx hb dL_law_1229 ?_
    refine lv_topi (fun z_12 ez_12 => ?_)
    refine lv_if_eq (tgt := 1235) hx hb dL_law_1230 (by decide) (fun c_13 => ?_) (fun c_13 => ?_)
    rotate_left
    · exact absurd c_13 (fun h => h (ez_12.trans (lgc ((hE2 c_11).trans (by rw [hy9])))))
    refine lv_goto (tgt := 1386) hx hb dL_law_1235 (by decide) ?_
    exact law_end (dC := dC) (dI := dI) hlt C0 hev hS (Nat.le_of_ble_eq_true rfl) (Nat.le_of_ble_eq_true rfl) (lv_sub hl [2, 6] rfl)

set_option maxHeartbeats 4000000 in
set_option maxRecDepth 100000 in
theorem law_faded {p : Program} {l : Launch} {e : Env} {s : State} {m : MethodId} {below : List Frame} {meth : Method} {c : Code} {b : Nat} {xs : Nat → Int32} (hlt : l.stackTraces = false) (C0 : lw_At p s m meth c b 6 xs) {dC : Nat → ClassId} {dI : Nat → Nat → Nat} {sa : Nat → Nat} (hev : ev sa (fun q : Nat => s.heap.size ≤ q) s s.heap) {H : Heap} {locs : List Loc} {ls : Array Slot} {x0 m0 ou : Nat} {co : ClassId} {ad : Nat → Nat} {md : Nat → Nat} (hK : va_K (dC, dI) vwCl [(co, .long)] s) (hP : va_P (dC, dI) vwCl [(x0, .inr (9, [.ref (ad 0), .ref (ad 8), .int 0, .int 0, .ref (ad 9), .int 0, .ref (ad 10), .ref (ad 15), .int 0, .ref (ad 16), .ref (ad 17)])), (m0, .inr (10, [.int 0, .int 0, .int 0, .int 0, .ref (md 4), .ref (md 5), .ref (md 6), .ref (md 7), .ref (md 8), .ref (md 9), .ref (md 10), .ref (md 11), .int 0, .ref (md 13), .ref (md 14), .ref (md 15), .ref (md 16), .ref (md 17), .ref (md 18), .ref (md 19), .int 0, .int 0, .int 0, .int 0, .int (-1), .int 0, .ref (md 26), .ref (md 27), .ref (md 28), .ref (md 29), .ref (md 30), .ref (md 31), .ref (md 32), .ref (md 33), .ref (md 34), .ref (md 35), .int 0, .int 0, .int 0, .int 0, .int 0, .int 0, .int 0, .int 0, .int (-1), .int 0, .int 0, .ref (md 47), .ref (md 48), .ref (md 49), .ref (md 50)])), (ou, .inl (co, 1, .inr (.inl (fun _ => 0))))] H) (hD : va_D (fun q : Nat => s.heap.size ≤ q) [(x0, .inr (9, [.ref (ad 0), .ref (ad 8), .int 0, .int 0, .ref (ad 9), .int 0, .ref (ad 10), .ref (ad 15), .int 0, .ref (ad 16), .ref (ad 17)])), (m0, .inr (10, [.int 0, .int 0, .int 0, .int 0, .ref (md 4), .ref (md 5), .ref (md 6), .ref (md 7), .ref (md 8), .ref (md 9), .ref (md 10), .ref (md 11), .int 0, .ref (md 13), .ref (md 14), .ref (md 15), .ref (md 16), .ref (md 17), .ref (md 18), .ref (md 19), .int 0, .int 0, .int 0, .int 0, .int (-1), .int 0, .ref (md 26), .ref (md 27), .ref (md 28), .ref (md 29), .ref (md 30), .ref (md 31), .ref (md 32), .ref (md 33), .ref (md 34), .ref (md 35), .int 0, .int 0, .int 0, .int 0, .int 0, .int 0, .int 0, .int 0, .int (-1), .int 0, .int 0, .ref (md 47), .ref (md 48), .ref (md 49), .ref (md 50)])), (ou, .inl (co, 1, .inr (.inl (fun _ => 0))))]) (hS : va_S (fun q : Nat => s.heap.size ≤ q) s.heap H locs) (hl : lv_has ls 7 [(4, .int 0), (3, .ref ou), (2, .ref m0), (1, .ref x0), (0, .ref b)]) : W p l e room_1 s m #[Value.ref b] below meth c H locs 61 29719 (lw_Z below #[Value.ref b] s) (F0 m 1238 ls []) := by
  obtain ⟨hx, hb, hr, hml, hown, hts, hX, hbl, hlocks, hgv⟩ := id C0
  have hown : s.vm.findClass RL = some m.cls := hown
  have hA : ∀ q : Nat, s.heap.size ≤ q → (fun q : Nat => s.heap.size ≤ q) q := fun _ h => h
  have hbA : ¬ (fun q : Nat => s.heap.size ≤ q) b := Nat.not_le.mpr hbl
  refine lv_aload_n hx hb dL_law_1238 rfl (lv_at hl 3 rfl) ?_
  refine lv_aload_n hx hb dL_law_1239 rfl (lv_at hl 4 rfl) ?_
  refine lv_iload hx hb dL_law_1240 (lv_at hl 0 rfl) ?_
  refine lv_iconst (v := 1) hx hb dL_law_1242 (by decide) ?_
  refine lv_iadd hx hb dL_law_1243 ?_
  refine lv_topi (fun z_1 ez_1 => ?_)
  obtain rfl : z_1 = 1 := ez_1.trans (by decide)
  refine va_sld hx hb hX hbl hbA hS (by unfold vp_in; decide) dL_law_1244 ?_
  refine W.eq (g2 := F0 m 1245 ls [.int (xs 1), .ref x0]) rfl ?_
  refine lv_aload_n hx hb dL_law_1245 rfl (lv_at hl 4 rfl) ?_
  refine lv_iload hx hb dL_law_1246 (lv_at hl 0 rfl) ?_
  refine lv_iconst (v := 2) hx hb dL_law_1248 (by decide) ?_
  refine lv_iadd hx hb dL_law_1249 ?_
  refine lv_topi (fun z_2 ez_2 => ?_)
  obtain rfl : z_2 = 2 := ez_2.trans (by decide)
  refine va_sld hx hb hX hbl hbA hS (by unfold vp_in; decide) dL_law_1250 ?_
  refine W.eq (g2 := F0 m 1251 ls [.int (xs 2), .int (xs 1), .ref x0]) rfl ?_
  refine lv_aload_n hx hb dL_law_1251 rfl (lv_at hl 4 rfl) ?_
  refine lv_iload hx hb dL_law_1252 (lv_at hl 0 rfl) ?_
  refine lv_iconst (v := 3) hx hb dL_law_1254 (by decide) ?_
  refine lv_iadd hx hb dL_law_1255 ?_
  refine lv_topi (fun z_3 ez_3 => ?_)
  obtain rfl : z_3 = 3 := ez_3.trans (by decide)
  refine va_sld hx hb hX hbl hbA hS (by unfold vp_in; decide) dL_law_1256 ?_
  refine W.eq (g2 := F0 m 1257 ls [.int (xs 3), .int (xs 2), .int (xs 1), .ref x0]) rfl ?_
  refine lv_aload_n hx hb dL_law_1257 rfl (lv_at hl 1 rfl) ?_
  refine go_SW (wr := [(m0, .inr (10, [.int 0, .int 0, .int 0, .int 0, .ref (md 4), .ref (md 5), .ref (md 6), .ref (md 7), .ref (md 8), .ref (md 9), .ref (md 10), .ref (md 11), .int 0, .ref (md 13), .ref (md 14), .ref (md 15), .ref (md 16), .ref (md 17), .ref (md 18), .ref (md 19), .int 0, .int 0, .int 0, .int 0, .int (-1), .int 0, .ref (md 26), .ref (md 27), .ref (md 28), .ref (md 29), .ref (md 30), .ref (md 31), .ref (md 32), .ref (md 33), .ref (md 34), .ref (md 35), .int 0, .int 0, .int 0, .int 0, .int 0, .int 0, .int 0, .int 0, .int (-1), .int 0, .int 0, .ref (md 47), .ref (md 48), .ref (md 49), .ref (md 50)]))]) ⟨hx, hb, hml, hown, hts⟩ (c_L_faded l dC dI sa hlt _ x0 ad ou co (fun _ => 0) (xs 1) (xs 2) (xs 3) ) (vx_cwSW 5 hts gL_law_L_faded rfl rfl rfl (by decide +kernel) ⟨Nat.le_of_ble_eq_true rfl, Nat.le_of_ble_eq_true rfl⟩) hP hD hK hS hA hev [0, 2] [1] [0] rfl rfl rfl rfl (by decide) rfl rfl hl.1 rfl (Nat.le_of_ble_eq_true rfl) dL_law_1258 ⟨Nat.le_of_ble_eq_true rfl, Nat.le_of_ble_eq_true rfl⟩ (fun r u H locs hw hP hD hK hS => ?_)
  obtain ⟨k_4, g_5⟩ := u
  have hw : r = some (.int k_4) ∧ (k_4 = 1) := hw
  obtain ⟨rfl, hw_6⟩ := hw
  have hP : va_P (dC, dI) vwCl [(m0, .inr (10, [.int 0, .int 0, .int 0, .int 0, .ref (md 4), .ref (md 5), .ref (md 6), .ref (md 7), .ref (md 8), .ref (md 9), .ref (md 10), .ref (md 11), .int 0, .ref (md 13), .ref (md 14), .ref (md 15), .ref (md 16), .ref (md 17), .ref (md 18), .ref (md 19), .int 0, .int 0, .int 0, .int 0, .int (-1), .int 0, .ref (md 26), .ref (md 27), .ref (md 28), .ref (md 29), .ref (md 30), .ref (md 31), .ref (md 32), .ref (md 33), .ref (md 34), .ref (md 35), .int 0, .int 0, .int 0, .int 0, .int 0, .int 0, .int 0, .int 0, .int (-1), .int 0, .int 0, .ref (md 47), .ref (md 48), .ref (md 49), .ref (md 50)])), (ou, .inl (co, 1, .inr (.inl g_5)))] _ := hP
  have hD : va_D _ [(m0, .inr (10, [.int 0, .int 0, .int 0, .int 0, .ref (md 4), .ref (md 5), .ref (md 6), .ref (md 7), .ref (md 8), .ref (md 9), .ref (md 10), .ref (md 11), .int 0, .ref (md 13), .ref (md 14), .ref (md 15), .ref (md 16), .ref (md 17), .ref (md 18), .ref (md 19), .int 0, .int 0, .int 0, .int 0, .int (-1), .int 0, .ref (md 26), .ref (md 27), .ref (md 28), .ref (md 29), .ref (md 30), .ref (md 31), .ref (md 32), .ref (md 33), .ref (md 34), .ref (md 35), .int 0, .int 0, .int 0, .int 0, .int 0, .int 0, .int 0, .int 0, .int (-1), .int 0, .int 0, .ref (md 47), .ref (md 48), .ref (md 49), .ref (md 50)])), (ou, .inl (co, 1, .inr (.inl g_5)))] := hD
  have hK : va_K (dC, dI) vwCl [(co, .long)] s := hK
  refine W.eq (g2 := F0 m 1261 ls [.int k_4]) rfl ?_
  refine lv_istore (lv' := [(5, .int k_4), (4, .int 0), (3, .ref ou), (2, .ref m0), (1, .ref x0), (0, .ref b)]) hx hb dL_law_1261 hl (by decide) rfl (fun ls hl => ?_)
  refine lv_aload_n hx hb dL_law_1263 rfl (lv_at hl 3 rfl) ?_
  refine lv_aload_n hx hb dL_law_1264 rfl (lv_at hl 5 rfl) ?_
  refine lv_iload hx hb dL_law_1265 (lv_at hl 1 rfl) ?_
  refine lv_iconst (v := 1) hx hb dL_law_1267 (by decide) ?_
  refine lv_iadd hx hb dL_law_1268 ?_
  refine lv_topi (fun z_7 ez_7 => ?_)
  obtain rfl : z_7 = 1 := ez_7.trans (by decide)
  refine va_sld hx hb hX hbl hbA hS (by unfold vp_in; decide) dL_law_1269 ?_
  refine W.eq (g2 := F0 m 1270 ls [.int (xs 1), .ref m0]) rfl ?_
  refine lv_aload_n hx hb dL_law_1270 rfl (lv_at hl 5 rfl) ?_
  refine lv_iload hx hb dL_law_1271 (lv_at hl 1 rfl) ?_
  refine lv_iconst (v := 2) hx hb dL_law_1273 (by decide) ?_
  refine lv_iadd hx hb dL_law_1274 ?_
  refine lv_topi (fun z_8 ez_8 => ?_)
  obtain rfl : z_8 = 2 := ez_8.trans (by decide)
  refine va_sld hx hb hX hbl hbA hS (by unfold vp_in; decide) dL_law_1275 ?_
  refine W.eq (g2 := F0 m 1276 ls [.int (xs 2), .int (xs 1), .ref m0]) rfl ?_
  refine lv_aload_n hx hb dL_law_1276 rfl (lv_at hl 5 rfl) ?_
  refine lv_iload hx hb dL_law_1277 (lv_at hl 1 rfl) ?_
  refine lv_iconst (v := 3) hx hb dL_law_1279 (by decide) ?_
  refine lv_iadd hx hb dL_law_1280 ?_
  refine lv_topi (fun z_9 ez_9 => ?_)
  obtain rfl : z_9 = 3 := ez_9.trans (by decide)
  refine va_sld hx hb hX hbl hbA hS (by unfold vp_in; decide) dL_law_1281 ?_
  refine W.eq (g2 := F0 m 1282 ls [.int (xs 3), .int (xs 2), .int (xs 1), .ref m0]) rfl ?_
  refine go_V (wr := [(ou, .inl (co, 1, .inr (.inl g_5)))]) ⟨hx, hb, hml, hown, hts⟩ (c_X10_faded l dC dI sa hlt _ m0 md (xs 1) (xs 2) (xs 3) ) (cwV 3 hts gL_law_X10_faded rfl rfl rfl (by decide +kernel) ⟨Nat.le_of_ble_eq_true rfl, Nat.le_of_ble_eq_true rfl⟩) hP hD hK hS hA hev [0] [1] [] rfl rfl rfl rfl (by decide) rfl 0 10 rfl rfl rfl rfl hl.1 rfl (Nat.le_of_ble_eq_true rfl) dL_law_1282 ⟨Nat.le_of_ble_eq_true rfl, Nat.le_of_ble_eq_true rfl⟩ (fun r u H locs hw hP hD hK hS => ?_)
  obtain ⟨x_10, J_11⟩ := u
  have hw : r = some (.int x_10) ∧ (J_11 0 = 1) := hw
  obtain ⟨rfl, hw_12⟩ := hw
  have hP : va_P (dC, dI) vwCl [(ou, .inl (co, 1, .inr (.inl g_5))), (m0, .inr (10, [.int (J_11 0), .int (J_11 1), .int (J_11 2), .int (J_11 3), .ref (md 4), .ref (md 5), .ref (md 6), .ref (md 7), .ref (md 8), .ref (md 9), .ref (md 10), .ref (md 11), .int (J_11 12), .ref (md 13), .ref (md 14), .ref (md 15), .ref (md 16), .ref (md 17), .ref (md 18), .ref (md 19), .int (J_11 20), .int (J_11 21), .int (J_11 22), .int (J_11 23), .int (J_11 24), .int (J_11 25), .ref (md 26), .ref (md 27), .ref (md 28), .ref (md 29), .ref (md 30), .ref (md 31), .ref (md 32), .ref (md 33), .ref (md 34), .ref (md 35), .int (J_11 36), .int (J_11 37), .int (J_11 38), .int (J_11 39), .int (J_11 40), .int (J_11 41), .int (J_11 42), .int (J_11 43), .int (J_11 44), .int (J_11 45), .int (J_11 46), .ref (md 47), .ref (md 48), .ref (md 49), .ref (md 50)]))] _ := hP
  have hD : va_D _ [(ou, .inl (co, 1, .inr (.inl g_5))), (m0, .inr (10, [.int (J_11 0), .int (J_11 1), .int (J_11 2), .int (J_11 3), .ref (md 4), .ref (md 5), .ref (md 6), .ref (md 7), .ref (md 8), .ref (md 9), .ref (md 10), .ref (md 11), .int (J_11 12), .ref (md 13), .ref (md 14), .ref (md 15), .ref (md 16), .ref (md 17), .ref (md 18), .ref (md 19), .int (J_11 20), .int (J_11 21), .int (J_11 22), .int (J_11 23), .int (J_11 24), .int (J_11 25), .ref (md 26), .ref (md 27), .ref (md 28), .ref (md 29), .ref (md 30), .ref (md 31), .ref (md 32), .ref (md 33), .ref (md 34), .ref (md 35), .int (J_11 36), .int (J_11 37), .int (J_11 38), .int (J_11 39), .int (J_11 40), .int (J_11 41), .int (J_11 42), .int (J_11 43), .int (J_11 44), .int (J_11 45), .int (J_11 46), .ref (md 47), .ref (md 48), .ref (md 49), .ref (md 50)]))] := hD
  have hK : va_K (dC, dI) vwCl [(co, .long)] s := hK
  refine W.eq (g2 := F0 m 1285 ls [.int x_10]) rfl ?_
  have hk9 := hw_6.trans hw_12.symm
  refine lv_istore (lv' := [(6, .int x_10), (5, .int k_4), (4, .int 0), (3, .ref ou), (2, .ref m0), (1, .ref x0), (0, .ref b)]) hx hb dL_law_1285 hl (by decide) rfl (fun ls hl => ?_)
  refine lv_aload_n hx hb dL_law_1287 rfl (lv_at hl 4 rfl) ?_
  refine go_V (wr := [(ou, .inl (co, 1, .inr (.inl g_5)))]) ⟨hx, hb, hml, hown, hts⟩ (c_X10_thrown l dC dI sa hlt _ m0 md J_11 ) (cwV 0 hts gL_law_X10_thrown rfl rfl rfl (by decide +kernel) ⟨Nat.le_of_ble_eq_true rfl, Nat.le_of_ble_eq_true rfl⟩) hP hD hK hS hA hev [1] [0] [] rfl rfl rfl rfl (by decide) rfl 1 10 rfl rfl rfl rfl hl.1 rfl (Nat.le_of_ble_eq_true rfl) dL_law_1288 ⟨Nat.le_of_ble_eq_true rfl, Nat.le_of_ble_eq_true rfl⟩ (fun r u H locs hw hP hD hK hS => ?_)
  have hw : r = some (.int (J_11 0)) ∧ (True) := hw
  obtain ⟨rfl, hw_13⟩ := hw
  have hP : va_P (dC, dI) vwCl [(ou, .inl (co, 1, .inr (.inl g_5))), (m0, .inr (10, [.int (J_11 0), .int (J_11 1), .int (J_11 2), .int (J_11 3), .ref (md 4), .ref (md 5), .ref (md 6), .ref (md 7), .ref (md 8), .ref (md 9), .ref (md 10), .ref (md 11), .int (J_11 12), .ref (md 13), .ref (md 14), .ref (md 15), .ref (md 16), .ref (md 17), .ref (md 18), .ref (md 19), .int (J_11 20), .int (J_11 21), .int (J_11 22), .int (J_11 23), .int (J_11 24), .int (J_11 25), .ref (md 26), .ref (md 27), .ref (md 28), .ref (md 29), .ref (md 30), .ref (md 31), .ref (md 32), .ref (md 33), .ref (md 34), .ref (md 35), .int (J_11 36), .int (J_11 37), .int (J_11 38), .int (J_11 39), .int (J_11 40), .int (J_11 41), .int (J_11 42), .int (J_11 43), .int (J_11 44), .int (J_11 45), .int (J_11 46), .ref (md 47), .ref (md 48), .ref (md 49), .ref (md 50)]))] _ := hP
  have hD : va_D _ [(ou, .inl (co, 1, .inr (.inl g_5))), (m0, .inr (10, [.int (J_11 0), .int (J_11 1), .int (J_11 2), .int (J_11 3), .ref (md 4), .ref (md 5), .ref (md 6), .ref (md 7), .ref (md 8), .ref (md 9), .ref (md 10), .ref (md 11), .int (J_11 12), .ref (md 13), .ref (md 14), .ref (md 15), .ref (md 16), .ref (md 17), .ref (md 18), .ref (md 19), .int (J_11 20), .int (J_11 21), .int (J_11 22), .int (J_11 23), .int (J_11 24), .int (J_11 25), .ref (md 26), .ref (md 27), .ref (md 28), .ref (md 29), .ref (md 30), .ref (md 31), .ref (md 32), .ref (md 33), .ref (md 34), .ref (md 35), .int (J_11 36), .int (J_11 37), .int (J_11 38), .int (J_11 39), .int (J_11 40), .int (J_11 41), .int (J_11 42), .int (J_11 43), .int (J_11 44), .int (J_11 45), .int (J_11 46), .ref (md 47), .ref (md 48), .ref (md 49), .ref (md 50)]))] := hD
  have hK : va_K (dC, dI) vwCl [(co, .long)] s := hK
  refine W.eq (g2 := F0 m 1291 ls [.int (J_11 0)]) rfl ?_
  refine lv_iload hx hb dL_law_1291 (lv_at hl 1 rfl) ?_
  refine lv_icmp_eq (tgt := 1298) hx hb dL_law_1293 (by decide) (fun c_14 => ?_) (fun c_14 => ?_)
  rotate_left
  · exact absurd c_14 (fun h => h hk9.symm)
  refine lv_iload hx hb dL_law_1298 (lv_at hl 1 rfl) ?_
  refine lv_if_ne (tgt := 1315) hx hb dL_law_1300 (by decide) (fun c_15 => ?_) (fun c_15 => ?_)
  rotate_left
  · exact absurd c_15 (by rw [hw_6]; decide)
  refine lv_goto (tgt := 1386) hx hb dL_law_1315 (by decide) ?_
  exact law_end (dC := dC) (dI := dI) hlt C0 hev hS (Nat.le_of_ble_eq_true rfl) (Nat.le_of_ble_eq_true rfl) (lv_sub hl [2, 6] rfl)

set_option maxHeartbeats 4000000 in
set_option maxRecDepth 100000 in
theorem law_matching {p : Program} {l : Launch} {e : Env} {s : State} {m : MethodId} {below : List Frame} {meth : Method} {c : Code} {b : Nat} {xs : Nat → Int32} (hlt : l.stackTraces = false) (C0 : lw_At p s m meth c b 6 xs) {dC : Nat → ClassId} {dI : Nat → Nat → Nat} {sa : Nat → Nat} (hev : ev sa (fun q : Nat => s.heap.size ≤ q) s s.heap) {H : Heap} {locs : List Loc} {ls : Array Slot} {x0 m0 ou : Nat} {co : ClassId} {ad : Nat → Nat} {md : Nat → Nat} (hK : va_K (dC, dI) vwCl [(co, .long)] s) (hP : va_P (dC, dI) vwCl [(x0, .inr (9, [.ref (ad 0), .ref (ad 8), .int 0, .int 0, .ref (ad 9), .int 0, .ref (ad 10), .ref (ad 15), .int 0, .ref (ad 16), .ref (ad 17)])), (m0, .inr (10, [.int 0, .int 0, .int 0, .int 0, .ref (md 4), .ref (md 5), .ref (md 6), .ref (md 7), .ref (md 8), .ref (md 9), .ref (md 10), .ref (md 11), .int 0, .ref (md 13), .ref (md 14), .ref (md 15), .ref (md 16), .ref (md 17), .ref (md 18), .ref (md 19), .int 0, .int 0, .int 0, .int 0, .int (-1), .int 0, .ref (md 26), .ref (md 27), .ref (md 28), .ref (md 29), .ref (md 30), .ref (md 31), .ref (md 32), .ref (md 33), .ref (md 34), .ref (md 35), .int 0, .int 0, .int 0, .int 0, .int 0, .int 0, .int 0, .int 0, .int (-1), .int 0, .int 0, .ref (md 47), .ref (md 48), .ref (md 49), .ref (md 50)])), (ou, .inl (co, 1, .inr (.inl (fun _ => 0))))] H) (hD : va_D (fun q : Nat => s.heap.size ≤ q) [(x0, .inr (9, [.ref (ad 0), .ref (ad 8), .int 0, .int 0, .ref (ad 9), .int 0, .ref (ad 10), .ref (ad 15), .int 0, .ref (ad 16), .ref (ad 17)])), (m0, .inr (10, [.int 0, .int 0, .int 0, .int 0, .ref (md 4), .ref (md 5), .ref (md 6), .ref (md 7), .ref (md 8), .ref (md 9), .ref (md 10), .ref (md 11), .int 0, .ref (md 13), .ref (md 14), .ref (md 15), .ref (md 16), .ref (md 17), .ref (md 18), .ref (md 19), .int 0, .int 0, .int 0, .int 0, .int (-1), .int 0, .ref (md 26), .ref (md 27), .ref (md 28), .ref (md 29), .ref (md 30), .ref (md 31), .ref (md 32), .ref (md 33), .ref (md 34), .ref (md 35), .int 0, .int 0, .int 0, .int 0, .int 0, .int 0, .int 0, .int 0, .int (-1), .int 0, .int 0, .ref (md 47), .ref (md 48), .ref (md 49), .ref (md 50)])), (ou, .inl (co, 1, .inr (.inl (fun _ => 0))))]) (hS : va_S (fun q : Nat => s.heap.size ≤ q) s.heap H locs) (hl : lv_has ls 7 [(4, .int 0), (3, .ref ou), (2, .ref m0), (1, .ref x0), (0, .ref b)]) : W p l e room_1 s m #[Value.ref b] below meth c H locs 61 29719 (lw_Z below #[Value.ref b] s) (F0 m 1318 ls []) := by
  obtain ⟨hx, hb, hr, hml, hown, hts, hX, hbl, hlocks, hgv⟩ := id C0
  have hown : s.vm.findClass RL = some m.cls := hown
  have hA : ∀ q : Nat, s.heap.size ≤ q → (fun q : Nat => s.heap.size ≤ q) q := fun _ h => h
  have hbA : ¬ (fun q : Nat => s.heap.size ≤ q) b := Nat.not_le.mpr hbl
  refine lv_aload_n hx hb dL_law_1318 rfl (lv_at hl 3 rfl) ?_
  refine lv_aload_n hx hb dL_law_1319 rfl (lv_at hl 4 rfl) ?_
  refine lv_iload hx hb dL_law_1320 (lv_at hl 0 rfl) ?_
  refine lv_iconst (v := 1) hx hb dL_law_1322 (by decide) ?_
  refine lv_iadd hx hb dL_law_1323 ?_
  refine lv_topi (fun z_1 ez_1 => ?_)
  obtain rfl : z_1 = 1 := ez_1.trans (by decide)
  refine va_sld hx hb hX hbl hbA hS (by unfold vp_in; decide) dL_law_1324 ?_
  refine W.eq (g2 := F0 m 1325 ls [.int (xs 1), .ref x0]) rfl ?_
  refine lv_aload_n hx hb dL_law_1325 rfl (lv_at hl 4 rfl) ?_
  refine lv_iload hx hb dL_law_1326 (lv_at hl 0 rfl) ?_
  refine lv_iconst (v := 2) hx hb dL_law_1328 (by decide) ?_
  refine lv_iadd hx hb dL_law_1329 ?_
  refine lv_topi (fun z_2 ez_2 => ?_)
  obtain rfl : z_2 = 2 := ez_2.trans (by decide)
  refine va_sld hx hb hX hbl hbA hS (by unfold vp_in; decide) dL_law_1330 ?_
  refine W.eq (g2 := F0 m 1331 ls [.int (xs 2), .int (xs 1), .ref x0]) rfl ?_
  refine lv_aload_n hx hb dL_law_1331 rfl (lv_at hl 1 rfl) ?_
  refine go_SW (wr := [(m0, .inr (10, [.int 0, .int 0, .int 0, .int 0, .ref (md 4), .ref (md 5), .ref (md 6), .ref (md 7), .ref (md 8), .ref (md 9), .ref (md 10), .ref (md 11), .int 0, .ref (md 13), .ref (md 14), .ref (md 15), .ref (md 16), .ref (md 17), .ref (md 18), .ref (md 19), .int 0, .int 0, .int 0, .int 0, .int (-1), .int 0, .ref (md 26), .ref (md 27), .ref (md 28), .ref (md 29), .ref (md 30), .ref (md 31), .ref (md 32), .ref (md 33), .ref (md 34), .ref (md 35), .int 0, .int 0, .int 0, .int 0, .int 0, .int 0, .int 0, .int 0, .int (-1), .int 0, .int 0, .ref (md 47), .ref (md 48), .ref (md 49), .ref (md 50)]))]) ⟨hx, hb, hml, hown, hts⟩ (c_L_matching l dC dI sa hlt _ x0 ad ou co (fun _ => 0) (xs 1) (xs 2) ) (vx_cwSW 4 hts gL_law_L_matching rfl rfl rfl (by decide +kernel) ⟨Nat.le_of_ble_eq_true rfl, Nat.le_of_ble_eq_true rfl⟩) hP hD hK hS hA hev [0, 2] [1] [0] rfl rfl rfl rfl (by decide) rfl rfl hl.1 rfl (Nat.le_of_ble_eq_true rfl) dL_law_1332 ⟨Nat.le_of_ble_eq_true rfl, Nat.le_of_ble_eq_true rfl⟩ (fun r u H locs hw hP hD hK hS => ?_)
  obtain ⟨k_3, g_4⟩ := u
  have hw : r = some (.int k_3) ∧ (k_3 = 1) := hw
  obtain ⟨rfl, hw_5⟩ := hw
  have hP : va_P (dC, dI) vwCl [(m0, .inr (10, [.int 0, .int 0, .int 0, .int 0, .ref (md 4), .ref (md 5), .ref (md 6), .ref (md 7), .ref (md 8), .ref (md 9), .ref (md 10), .ref (md 11), .int 0, .ref (md 13), .ref (md 14), .ref (md 15), .ref (md 16), .ref (md 17), .ref (md 18), .ref (md 19), .int 0, .int 0, .int 0, .int 0, .int (-1), .int 0, .ref (md 26), .ref (md 27), .ref (md 28), .ref (md 29), .ref (md 30), .ref (md 31), .ref (md 32), .ref (md 33), .ref (md 34), .ref (md 35), .int 0, .int 0, .int 0, .int 0, .int 0, .int 0, .int 0, .int 0, .int (-1), .int 0, .int 0, .ref (md 47), .ref (md 48), .ref (md 49), .ref (md 50)])), (ou, .inl (co, 1, .inr (.inl g_4)))] _ := hP
  have hD : va_D _ [(m0, .inr (10, [.int 0, .int 0, .int 0, .int 0, .ref (md 4), .ref (md 5), .ref (md 6), .ref (md 7), .ref (md 8), .ref (md 9), .ref (md 10), .ref (md 11), .int 0, .ref (md 13), .ref (md 14), .ref (md 15), .ref (md 16), .ref (md 17), .ref (md 18), .ref (md 19), .int 0, .int 0, .int 0, .int 0, .int (-1), .int 0, .ref (md 26), .ref (md 27), .ref (md 28), .ref (md 29), .ref (md 30), .ref (md 31), .ref (md 32), .ref (md 33), .ref (md 34), .ref (md 35), .int 0, .int 0, .int 0, .int 0, .int 0, .int 0, .int 0, .int 0, .int (-1), .int 0, .int 0, .ref (md 47), .ref (md 48), .ref (md 49), .ref (md 50)])), (ou, .inl (co, 1, .inr (.inl g_4)))] := hD
  have hK : va_K (dC, dI) vwCl [(co, .long)] s := hK
  refine W.eq (g2 := F0 m 1335 ls [.int k_3]) rfl ?_
  refine lv_istore (lv' := [(5, .int k_3), (4, .int 0), (3, .ref ou), (2, .ref m0), (1, .ref x0), (0, .ref b)]) hx hb dL_law_1335 hl (by decide) rfl (fun ls hl => ?_)
  refine lv_aload_n hx hb dL_law_1337 rfl (lv_at hl 3 rfl) ?_
  refine lv_aload_n hx hb dL_law_1338 rfl (lv_at hl 5 rfl) ?_
  refine lv_iload hx hb dL_law_1339 (lv_at hl 1 rfl) ?_
  refine lv_iconst (v := 1) hx hb dL_law_1341 (by decide) ?_
  refine lv_iadd hx hb dL_law_1342 ?_
  refine lv_topi (fun z_6 ez_6 => ?_)
  obtain rfl : z_6 = 1 := ez_6.trans (by decide)
  refine va_sld hx hb hX hbl hbA hS (by unfold vp_in; decide) dL_law_1343 ?_
  refine W.eq (g2 := F0 m 1344 ls [.int (xs 1), .ref m0]) rfl ?_
  refine lv_aload_n hx hb dL_law_1344 rfl (lv_at hl 5 rfl) ?_
  refine lv_iload hx hb dL_law_1345 (lv_at hl 1 rfl) ?_
  refine lv_iconst (v := 2) hx hb dL_law_1347 (by decide) ?_
  refine lv_iadd hx hb dL_law_1348 ?_
  refine lv_topi (fun z_7 ez_7 => ?_)
  obtain rfl : z_7 = 2 := ez_7.trans (by decide)
  refine va_sld hx hb hX hbl hbA hS (by unfold vp_in; decide) dL_law_1349 ?_
  refine W.eq (g2 := F0 m 1350 ls [.int (xs 2), .int (xs 1), .ref m0]) rfl ?_
  refine go_V (wr := [(ou, .inl (co, 1, .inr (.inl g_4)))]) ⟨hx, hb, hml, hown, hts⟩ (c_X10_matching l dC dI sa hlt _ m0 md (xs 1) (xs 2) ) (cwV 2 hts gL_law_X10_matching rfl rfl rfl (by decide +kernel) ⟨Nat.le_of_ble_eq_true rfl, Nat.le_of_ble_eq_true rfl⟩) hP hD hK hS hA hev [0] [1] [] rfl rfl rfl rfl (by decide) rfl 0 10 rfl rfl rfl rfl hl.1 rfl (Nat.le_of_ble_eq_true rfl) dL_law_1350 ⟨Nat.le_of_ble_eq_true rfl, Nat.le_of_ble_eq_true rfl⟩ (fun r u H locs hw hP hD hK hS => ?_)
  obtain ⟨x_8, J_9⟩ := u
  have hw : r = some (.int x_8) ∧ (J_9 0 = 1) := hw
  obtain ⟨rfl, hw_10⟩ := hw
  have hP : va_P (dC, dI) vwCl [(ou, .inl (co, 1, .inr (.inl g_4))), (m0, .inr (10, [.int (J_9 0), .int (J_9 1), .int (J_9 2), .int (J_9 3), .ref (md 4), .ref (md 5), .ref (md 6), .ref (md 7), .ref (md 8), .ref (md 9), .ref (md 10), .ref (md 11), .int (J_9 12), .ref (md 13), .ref (md 14), .ref (md 15), .ref (md 16), .ref (md 17), .ref (md 18), .ref (md 19), .int (J_9 20), .int (J_9 21), .int (J_9 22), .int (J_9 23), .int (J_9 24), .int (J_9 25), .ref (md 26), .ref (md 27), .ref (md 28), .ref (md 29), .ref (md 30), .ref (md 31), .ref (md 32), .ref (md 33), .ref (md 34), .ref (md 35), .int (J_9 36), .int (J_9 37), .int (J_9 38), .int (J_9 39), .int (J_9 40), .int (J_9 41), .int (J_9 42), .int (J_9 43), .int (J_9 44), .int (J_9 45), .int (J_9 46), .ref (md 47), .ref (md 48), .ref (md 49), .ref (md 50)]))] _ := hP
  have hD : va_D _ [(ou, .inl (co, 1, .inr (.inl g_4))), (m0, .inr (10, [.int (J_9 0), .int (J_9 1), .int (J_9 2), .int (J_9 3), .ref (md 4), .ref (md 5), .ref (md 6), .ref (md 7), .ref (md 8), .ref (md 9), .ref (md 10), .ref (md 11), .int (J_9 12), .ref (md 13), .ref (md 14), .ref (md 15), .ref (md 16), .ref (md 17), .ref (md 18), .ref (md 19), .int (J_9 20), .int (J_9 21), .int (J_9 22), .int (J_9 23), .int (J_9 24), .int (J_9 25), .ref (md 26), .ref (md 27), .ref (md 28), .ref (md 29), .ref (md 30), .ref (md 31), .ref (md 32), .ref (md 33), .ref (md 34), .ref (md 35), .int (J_9 36), .int (J_9 37), .int (J_9 38), .int (J_9 39), .int (J_9 40), .int (J_9 41), .int (J_9 42), .int (J_9 43), .int (J_9 44), .int (J_9 45), .int (J_9 46), .ref (md 47), .ref (md 48), .ref (md 49), .ref (md 50)]))] := hD
  have hK : va_K (dC, dI) vwCl [(co, .long)] s := hK
  refine W.eq (g2 := F0 m 1353 ls [.int x_8]) rfl ?_
  have hk9 := hw_5.trans hw_10.symm
  refine lv_istore (lv' := [(6, .int x_8), (5, .int k_3), (4, .int 0), (3, .ref ou), (2, .ref m0), (1, .ref x0), (0, .ref b)]) hx hb dL_law_1353 hl (by decide) rfl (fun ls hl => ?_)
  refine lv_aload_n hx hb dL_law_1355 rfl (lv_at hl 4 rfl) ?_
  refine go_V (wr := [(ou, .inl (co, 1, .inr (.inl g_4)))]) ⟨hx, hb, hml, hown, hts⟩ (c_X10_thrown l dC dI sa hlt _ m0 md J_9 ) (cwV 0 hts gL_law_X10_thrown rfl rfl rfl (by decide +kernel) ⟨Nat.le_of_ble_eq_true rfl, Nat.le_of_ble_eq_true rfl⟩) hP hD hK hS hA hev [1] [0] [] rfl rfl rfl rfl (by decide) rfl 1 10 rfl rfl rfl rfl hl.1 rfl (Nat.le_of_ble_eq_true rfl) dL_law_1356 ⟨Nat.le_of_ble_eq_true rfl, Nat.le_of_ble_eq_true rfl⟩ (fun r u H locs hw hP hD hK hS => ?_)
  have hw : r = some (.int (J_9 0)) ∧ (True) := hw
  obtain ⟨rfl, hw_11⟩ := hw
  have hP : va_P (dC, dI) vwCl [(ou, .inl (co, 1, .inr (.inl g_4))), (m0, .inr (10, [.int (J_9 0), .int (J_9 1), .int (J_9 2), .int (J_9 3), .ref (md 4), .ref (md 5), .ref (md 6), .ref (md 7), .ref (md 8), .ref (md 9), .ref (md 10), .ref (md 11), .int (J_9 12), .ref (md 13), .ref (md 14), .ref (md 15), .ref (md 16), .ref (md 17), .ref (md 18), .ref (md 19), .int (J_9 20), .int (J_9 21), .int (J_9 22), .int (J_9 23), .int (J_9 24), .int (J_9 25), .ref (md 26), .ref (md 27), .ref (md 28), .ref (md 29), .ref (md 30), .ref (md 31), .ref (md 32), .ref (md 33), .ref (md 34), .ref (md 35), .int (J_9 36), .int (J_9 37), .int (J_9 38), .int (J_9 39), .int (J_9 40), .int (J_9 41), .int (J_9 42), .int (J_9 43), .int (J_9 44), .int (J_9 45), .int (J_9 46), .ref (md 47), .ref (md 48), .ref (md 49), .ref (md 50)]))] _ := hP
  have hD : va_D _ [(ou, .inl (co, 1, .inr (.inl g_4))), (m0, .inr (10, [.int (J_9 0), .int (J_9 1), .int (J_9 2), .int (J_9 3), .ref (md 4), .ref (md 5), .ref (md 6), .ref (md 7), .ref (md 8), .ref (md 9), .ref (md 10), .ref (md 11), .int (J_9 12), .ref (md 13), .ref (md 14), .ref (md 15), .ref (md 16), .ref (md 17), .ref (md 18), .ref (md 19), .int (J_9 20), .int (J_9 21), .int (J_9 22), .int (J_9 23), .int (J_9 24), .int (J_9 25), .ref (md 26), .ref (md 27), .ref (md 28), .ref (md 29), .ref (md 30), .ref (md 31), .ref (md 32), .ref (md 33), .ref (md 34), .ref (md 35), .int (J_9 36), .int (J_9 37), .int (J_9 38), .int (J_9 39), .int (J_9 40), .int (J_9 41), .int (J_9 42), .int (J_9 43), .int (J_9 44), .int (J_9 45), .int (J_9 46), .ref (md 47), .ref (md 48), .ref (md 49), .ref (md 50)]))] := hD
  have hK : va_K (dC, dI) vwCl [(co, .long)] s := hK
  refine W.eq (g2 := F0 m 1359 ls [.int (J_9 0)]) rfl ?_
  refine lv_iload hx hb dL_law_1359 (lv_at hl 1 rfl) ?_
  refine lv_icmp_eq (tgt := 1366) hx hb dL_law_1361 (by decide) (fun c_12 => ?_) (fun c_12 => ?_)
  rotate_left
  · exact absurd c_12 (fun h => h hk9.symm)
  refine lv_iload hx hb dL_law_1366 (lv_at hl 1 rfl) ?_
  refine lv_if_ne (tgt := 1383) hx hb dL_law_1368 (by decide) (fun c_13 => ?_) (fun c_13 => ?_)
  rotate_left
  · exact absurd c_13 (by rw [hw_5]; decide)
  refine lv_goto (tgt := 1386) hx hb dL_law_1383 (by decide) ?_
  exact law_end (dC := dC) (dI := dI) hlt C0 hev hS (Nat.le_of_ble_eq_true rfl) (Nat.le_of_ble_eq_true rfl) (lv_sub hl [2, 6] rfl)

