theorem flL {a b x : Cond} (h : x ∈ flatC a) : x ∈ flatC (Jvm.Cond.and a b) := List.mem_append_left (flatC b) h
theorem flR {a b x : Cond} (h : x ∈ flatC b) : x ∈ flatC (Jvm.Cond.and a b) := List.mem_append_right (flatC a) h
theorem fl0 {c x : Cond} (h : x = c) (hc : flatC c = [c]) : x ∈ flatC c := by
  rw [hc, h]
  exact List.mem_singleton.mpr rfl
noncomputable def tmS (i : Nat) : Term := .string (rowS.getD i ("", 0, "")).1 (rowS.getD i ("", 0, "")).2.1
noncomputable abbrev fl1 : List Cond := flatC (Jvm.Cond.and given_1 narrow_1)
set_option maxRecDepth 100000 in
theorem fl_ex : ∀ i : Nat, i < 20 → Cond.exactly (tmS i) "java/lang/String" ∈ fl1 := fun i hi => by
  match i, hi with
  | 0, _ => exact flR (flL (flR (flL (flR (flL (flR (flR (flR (flR (flR (fl0 (by first | exact rfl | decide +kernel) (by exact rfl))))))))))))
  | 1, _ => exact flR (flL (flR (flL (flR (flR (flR (flL (flR (flL (fl0 (by first | exact rfl | decide +kernel) (by exact rfl)))))))))))
  | 2, _ => exact flR (flL (flR (flR (flL (flL (flL (flR (flL (flL (fl0 (by first | exact rfl | decide +kernel) (by exact rfl)))))))))))
  | 3, _ => exact flR (flL (flR (flR (flL (flR (flL (flL (flL (flR (fl0 (by first | exact rfl | decide +kernel) (by exact rfl)))))))))))
  | 4, _ => exact flR (flL (flR (flR (flL (flR (flR (flR (flR (flL (fl0 (by first | exact rfl | decide +kernel) (by exact rfl)))))))))))
  | 5, _ => exact flR (flL (flR (flR (flR (flL (flR (flR (flL (flL (fl0 (by first | exact rfl | decide +kernel) (by exact rfl)))))))))))
  | 6, _ => exact flR (flL (flR (flR (flR (flR (flR (flL (flR (flR (flL (fl0 (by first | exact rfl | decide +kernel) (by exact rfl))))))))))))
  | 7, _ => exact flR (flR (flL (flL (flL (flL (flR (flL (flR (flL (fl0 (by first | exact rfl | decide +kernel) (by exact rfl)))))))))))
  | 8, _ => exact flR (flR (flL (flL (flL (flR (flR (flL (flR (flR (flR (fl0 (by first | exact rfl | decide +kernel) (by exact rfl))))))))))))
  | 9, _ => exact flR (flR (flL (flL (flR (flL (flR (flR (flL (flR (fl0 (by first | exact rfl | decide +kernel) (by exact rfl)))))))))))
  | 10, _ => exact flR (flR (flL (flL (flR (flR (flR (flR (flL (flR (flR (fl0 (by first | exact rfl | decide +kernel) (by exact rfl))))))))))))
  | 11, _ => exact flR (flR (flL (flR (flL (flL (flR (flR (flR (flR (flR (fl0 (by first | exact rfl | decide +kernel) (by exact rfl))))))))))))
  | 12, _ => exact flR (flR (flL (flR (flR (flL (flL (flL (flL (flR (fl0 (by first | exact rfl | decide +kernel) (by exact rfl)))))))))))
  | 13, _ => exact flR (flR (flL (flR (flR (flR (flL (flR (flL (flR (fl0 (by first | exact rfl | decide +kernel) (by exact rfl)))))))))))
  | 14, _ => exact flR (flR (flR (flL (flL (flL (flR (flL (flR (flL (fl0 (by first | exact rfl | decide +kernel) (by exact rfl)))))))))))
  | 15, _ => exact flR (flR (flR (flL (flR (flL (flL (flL (flL (flL (fl0 (by first | exact rfl | decide +kernel) (by exact rfl)))))))))))
  | 16, _ => exact flR (flR (flR (flL (flR (flR (flL (flR (flR (flR (flR (fl0 (by first | exact rfl | decide +kernel) (by exact rfl))))))))))))
  | 17, _ => exact flR (flR (flR (flR (flL (flL (flR (flR (flR (flR (flL (fl0 (by first | exact rfl | decide +kernel) (by exact rfl))))))))))))
  | 18, _ => exact flR (flR (flR (flR (flR (flL (flR (flL (flL (flL (fl0 (by first | exact rfl | decide +kernel) (by exact rfl)))))))))))
  | 19, _ => exact flR (flL (flL (flR (flL (flL (flL (flL (flR (flL (fl0 (by first | exact rfl | decide +kernel) (by exact rfl)))))))))))
  | n + 20, h => exact absurd h (by omega)
set_option maxRecDepth 100000 in
theorem fl_co : ∀ i : Nat, i < 20 → Cond.eq (.field (tmS i) "java/lang/String" "coder" "B") (.int 0) ∈ fl1 := fun i hi => by
  match i, hi with
  | 0, _ => exact flR (flL (flR (flL (flR (flR (flL (flL (flL (flL (fl0 (by first | exact rfl | decide +kernel) (by exact rfl)))))))))))
  | 1, _ => exact flR (flL (flR (flL (flR (flR (flR (flL (flR (flR (flL (fl0 (by first | exact rfl | decide +kernel) (by exact rfl))))))))))))
  | 2, _ => exact flR (flL (flR (flR (flL (flL (flL (flR (flL (flR (fl0 (by first | exact rfl | decide +kernel) (by exact rfl)))))))))))
  | 3, _ => exact flR (flL (flR (flR (flL (flR (flL (flL (flR (flL (fl0 (by first | exact rfl | decide +kernel) (by exact rfl)))))))))))
  | 4, _ => exact flR (flL (flR (flR (flL (flR (flR (flR (flR (flR (flL (fl0 (by first | exact rfl | decide +kernel) (by exact rfl))))))))))))
  | 5, _ => exact flR (flL (flR (flR (flR (flL (flR (flR (flL (flR (flL (fl0 (by first | exact rfl | decide +kernel) (by exact rfl))))))))))))
  | 6, _ => exact flR (flL (flR (flR (flR (flR (flR (flL (flR (flR (flR (fl0 (by first | exact rfl | decide +kernel) (by exact rfl))))))))))))
  | 7, _ => exact flR (flR (flL (flL (flL (flL (flR (flL (flR (flR (flL (fl0 (by first | exact rfl | decide +kernel) (by exact rfl))))))))))))
  | 8, _ => exact flR (flR (flL (flL (flL (flR (flR (flR (flL (flL (fl0 (by first | exact rfl | decide +kernel) (by exact rfl)))))))))))
  | 9, _ => exact flR (flR (flL (flL (flR (flL (flR (flR (flR (flL (fl0 (by first | exact rfl | decide +kernel) (by exact rfl)))))))))))
  | 10, _ => exact flR (flR (flL (flL (flR (flR (flR (flR (flR (flL (fl0 (by first | exact rfl | decide +kernel) (by exact rfl)))))))))))
  | 11, _ => exact flR (flR (flL (flR (flL (flR (flL (flL (flL (flL (fl0 (by first | exact rfl | decide +kernel) (by exact rfl)))))))))))
  | 12, _ => exact flR (flR (flL (flR (flR (flL (flL (flL (flR (flL (fl0 (by first | exact rfl | decide +kernel) (by exact rfl)))))))))))
  | 13, _ => exact flR (flR (flL (flR (flR (flR (flL (flR (flR (flL (fl0 (by first | exact rfl | decide +kernel) (by exact rfl)))))))))))
  | 14, _ => exact flR (flR (flR (flL (flL (flL (flR (flL (flR (flR (flL (fl0 (by first | exact rfl | decide +kernel) (by exact rfl))))))))))))
  | 15, _ => exact flR (flR (flR (flL (flR (flL (flL (flL (flL (flR (fl0 (by first | exact rfl | decide +kernel) (by exact rfl)))))))))))
  | 16, _ => exact flR (flR (flR (flL (flR (flR (flR (flL (flL (flL (fl0 (by first | exact rfl | decide +kernel) (by exact rfl)))))))))))
  | 17, _ => exact flR (flR (flR (flR (flL (flL (flR (flR (flR (flR (flR (fl0 (by first | exact rfl | decide +kernel) (by exact rfl))))))))))))
  | 18, _ => exact flR (flR (flR (flR (flR (flL (flR (flL (flL (flR (fl0 (by first | exact rfl | decide +kernel) (by exact rfl)))))))))))
  | 19, _ => exact flR (flL (flL (flR (flL (flL (flL (flL (flR (flR (flL (fl0 (by first | exact rfl | decide +kernel) (by exact rfl))))))))))))
  | n + 20, h => exact absurd h (by omega)
set_option maxRecDepth 100000 in
theorem fl_ar : ∀ i : Nat, i < 20 → Cond.arrayOf (.field (tmS i) "java/lang/String" "value" "[B") .byte ∈ fl1 := fun i hi => by
  match i, hi with
  | 0, _ => exact flR (flL (flR (flL (flR (flR (flL (flL (flL (flR (fl0 (by first | exact rfl | decide +kernel) (by exact rfl)))))))))))
  | 1, _ => exact flR (flL (flR (flL (flR (flR (flR (flL (flR (flR (flR (fl0 (by first | exact rfl | decide +kernel) (by exact rfl))))))))))))
  | 2, _ => exact flR (flL (flR (flR (flL (flL (flL (flR (flR (flL (fl0 (by first | exact rfl | decide +kernel) (by exact rfl)))))))))))
  | 3, _ => exact flR (flL (flR (flR (flL (flR (flL (flL (flR (flR (flL (fl0 (by first | exact rfl | decide +kernel) (by exact rfl))))))))))))
  | 4, _ => exact flR (flL (flR (flR (flL (flR (flR (flR (flR (flR (flR (fl0 (by first | exact rfl | decide +kernel) (by exact rfl))))))))))))
  | 5, _ => exact flR (flL (flR (flR (flR (flL (flR (flR (flL (flR (flR (fl0 (by first | exact rfl | decide +kernel) (by exact rfl))))))))))))
  | 6, _ => exact flR (flL (flR (flR (flR (flR (flR (flR (flL (flL (fl0 (by first | exact rfl | decide +kernel) (by exact rfl)))))))))))
  | 7, _ => exact flR (flR (flL (flL (flL (flL (flR (flL (flR (flR (flR (fl0 (by first | exact rfl | decide +kernel) (by exact rfl))))))))))))
  | 8, _ => exact flR (flR (flL (flL (flL (flR (flR (flR (flL (flR (flL (fl0 (by first | exact rfl | decide +kernel) (by exact rfl))))))))))))
  | 9, _ => exact flR (flR (flL (flL (flR (flL (flR (flR (flR (flR (flL (fl0 (by first | exact rfl | decide +kernel) (by exact rfl))))))))))))
  | 10, _ => exact flR (flR (flL (flL (flR (flR (flR (flR (flR (flR (flL (fl0 (by first | exact rfl | decide +kernel) (by exact rfl))))))))))))
  | 11, _ => exact flR (flR (flL (flR (flL (flR (flL (flL (flL (flR (fl0 (by first | exact rfl | decide +kernel) (by exact rfl)))))))))))
  | 12, _ => exact flR (flR (flL (flR (flR (flL (flL (flL (flR (flR (flL (fl0 (by first | exact rfl | decide +kernel) (by exact rfl))))))))))))
  | 13, _ => exact flR (flR (flL (flR (flR (flR (flL (flR (flR (flR (flL (fl0 (by first | exact rfl | decide +kernel) (by exact rfl))))))))))))
  | 14, _ => exact flR (flR (flR (flL (flL (flL (flR (flL (flR (flR (flR (fl0 (by first | exact rfl | decide +kernel) (by exact rfl))))))))))))
  | 15, _ => exact flR (flR (flR (flL (flR (flL (flL (flL (flR (flL (fl0 (by first | exact rfl | decide +kernel) (by exact rfl)))))))))))
  | 16, _ => exact flR (flR (flR (flL (flR (flR (flR (flL (flL (flR (fl0 (by first | exact rfl | decide +kernel) (by exact rfl)))))))))))
  | 17, _ => exact flR (flR (flR (flR (flL (flR (flL (flL (flL (flL (fl0 (by first | exact rfl | decide +kernel) (by exact rfl)))))))))))
  | 18, _ => exact flR (flR (flR (flR (flR (flL (flR (flL (flR (flL (fl0 (by first | exact rfl | decide +kernel) (by exact rfl)))))))))))
  | 19, _ => exact flR (flL (flL (flR (flL (flL (flL (flL (flR (flR (flR (fl0 (by first | exact rfl | decide +kernel) (by exact rfl))))))))))))
  | n + 20, h => exact absurd h (by omega)
set_option maxRecDepth 100000 in
theorem fl_le : ∀ i : Nat, i < 20 → Cond.eq (.length (.field (tmS i) "java/lang/String" "value" "[B")) (.int (Int32.ofNat (lenS.getD i 0))) ∈ fl1 := fun i hi => by
  match i, hi with
  | 0, _ => exact flR (flL (flR (flL (flR (flR (flL (flL (flR (flL (fl0 (by first | exact rfl | decide +kernel) (by exact rfl)))))))))))
  | 1, _ => exact flR (flL (flR (flL (flR (flR (flR (flR (flL (flL (fl0 (by first | exact rfl | decide +kernel) (by exact rfl)))))))))))
  | 2, _ => exact flR (flL (flR (flR (flL (flL (flL (flR (flR (flR (flL (fl0 (by first | exact rfl | decide +kernel) (by exact rfl))))))))))))
  | 3, _ => exact flR (flL (flR (flR (flL (flR (flL (flL (flR (flR (flR (fl0 (by first | exact rfl | decide +kernel) (by exact rfl))))))))))))
  | 4, _ => exact flR (flL (flR (flR (flR (flL (flL (flL (flL (flL (fl0 (by first | exact rfl | decide +kernel) (by exact rfl)))))))))))
  | 5, _ => exact flR (flL (flR (flR (flR (flL (flR (flR (flR (flL (fl0 (by first | exact rfl | decide +kernel) (by exact rfl)))))))))))
  | 6, _ => exact flR (flL (flR (flR (flR (flR (flR (flR (flL (flR (flL (fl0 (by first | exact rfl | decide +kernel) (by exact rfl))))))))))))
  | 7, _ => exact flR (flR (flL (flL (flL (flL (flR (flR (flL (flL (fl0 (by first | exact rfl | decide +kernel) (by exact rfl)))))))))))
  | 8, _ => exact flR (flR (flL (flL (flL (flR (flR (flR (flL (flR (flR (fl0 (by first | exact rfl | decide +kernel) (by exact rfl))))))))))))
  | 9, _ => exact flR (flR (flL (flL (flR (flL (flR (flR (flR (flR (flR (fl0 (by first | exact rfl | decide +kernel) (by exact rfl))))))))))))
  | 10, _ => exact flR (flR (flL (flL (flR (flR (flR (flR (flR (flR (flR (fl0 (by first | exact rfl | decide +kernel) (by exact rfl))))))))))))
  | 11, _ => exact flR (flR (flL (flR (flL (flR (flL (flL (flR (flL (fl0 (by first | exact rfl | decide +kernel) (by exact rfl)))))))))))
  | 12, _ => exact flR (flR (flL (flR (flR (flL (flL (flL (flR (flR (flR (fl0 (by first | exact rfl | decide +kernel) (by exact rfl))))))))))))
  | 13, _ => exact flR (flR (flL (flR (flR (flR (flL (flR (flR (flR (flR (fl0 (by first | exact rfl | decide +kernel) (by exact rfl))))))))))))
  | 14, _ => exact flR (flR (flR (flL (flL (flL (flR (flR (flL (flL (fl0 (by first | exact rfl | decide +kernel) (by exact rfl)))))))))))
  | 15, _ => exact flR (flR (flR (flL (flR (flL (flL (flL (flR (flR (flL (fl0 (by first | exact rfl | decide +kernel) (by exact rfl))))))))))))
  | 16, _ => exact flR (flR (flR (flL (flR (flR (flR (flL (flR (flL (fl0 (by first | exact rfl | decide +kernel) (by exact rfl)))))))))))
  | 17, _ => exact flR (flR (flR (flR (flL (flR (flL (flL (flL (flR (fl0 (by first | exact rfl | decide +kernel) (by exact rfl)))))))))))
  | 18, _ => exact flR (flR (flR (flR (flR (flL (flR (flL (flR (flR (flL (fl0 (by first | exact rfl | decide +kernel) (by exact rfl))))))))))))
  | 19, _ => exact flR (flL (flL (flR (flL (flL (flL (flR (flL (flL (fl0 (by first | exact rfl | decide +kernel) (by exact rfl)))))))))))
  | n + 20, h => exact absurd h (by omega)
set_option maxRecDepth 100000 in
theorem fl_el0 : ∀ j : Nat, j < 3 → Cond.eq (.elem (.field (tmS 0) "java/lang/String" "value" "[B") (.int (Int32.ofNat j))) (.int ((bytS.getD 0 []).getD j 0)) ∈ fl1 := fun j hj => by
  match j, hj with
  | 0, _ => exact flR (flL (flR (flL (flR (flR (flL (flL (flR (flR (flL (fl0 (by first | exact rfl | decide +kernel) (by exact rfl))))))))))))
  | 1, _ => exact flR (flL (flR (flL (flR (flR (flL (flL (flR (flR (flR (fl0 (by first | exact rfl | decide +kernel) (by exact rfl))))))))))))
  | 2, _ => exact flR (flL (flR (flL (flR (flR (flL (flR (flL (flL (fl0 (by first | exact rfl | decide +kernel) (by exact rfl)))))))))))
  | n + 3, h => exact absurd h (by omega)
set_option maxRecDepth 100000 in
theorem fl_el1 : ∀ j : Nat, j < 3 → Cond.eq (.elem (.field (tmS 1) "java/lang/String" "value" "[B") (.int (Int32.ofNat j))) (.int ((bytS.getD 1 []).getD j 0)) ∈ fl1 := fun j hj => by
  match j, hj with
  | 0, _ => exact flR (flL (flR (flL (flR (flR (flR (flR (flL (flR (flL (fl0 (by first | exact rfl | decide +kernel) (by exact rfl))))))))))))
  | 1, _ => exact flR (flL (flR (flL (flR (flR (flR (flR (flL (flR (flR (fl0 (by first | exact rfl | decide +kernel) (by exact rfl))))))))))))
  | 2, _ => exact flR (flL (flR (flL (flR (flR (flR (flR (flR (flL (fl0 (by first | exact rfl | decide +kernel) (by exact rfl)))))))))))
  | n + 3, h => exact absurd h (by omega)
set_option maxRecDepth 100000 in
theorem fl_el2 : ∀ j : Nat, j < 4 → Cond.eq (.elem (.field (tmS 2) "java/lang/String" "value" "[B") (.int (Int32.ofNat j))) (.int ((bytS.getD 2 []).getD j 0)) ∈ fl1 := fun j hj => by
  match j, hj with
  | 0, _ => exact flR (flL (flR (flR (flL (flL (flL (flR (flR (flR (flR (fl0 (by first | exact rfl | decide +kernel) (by exact rfl))))))))))))
  | 1, _ => exact flR (flL (flR (flR (flL (flL (flR (flL (flL (flL (fl0 (by first | exact rfl | decide +kernel) (by exact rfl)))))))))))
  | 2, _ => exact flR (flL (flR (flR (flL (flL (flR (flL (flL (flR (fl0 (by first | exact rfl | decide +kernel) (by exact rfl)))))))))))
  | 3, _ => exact flR (flL (flR (flR (flL (flL (flR (flL (flR (flL (fl0 (by first | exact rfl | decide +kernel) (by exact rfl)))))))))))
  | n + 4, h => exact absurd h (by omega)
set_option maxRecDepth 100000 in
theorem fl_el3 : ∀ j : Nat, j < 4 → Cond.eq (.elem (.field (tmS 3) "java/lang/String" "value" "[B") (.int (Int32.ofNat j))) (.int ((bytS.getD 3 []).getD j 0)) ∈ fl1 := fun j hj => by
  match j, hj with
  | 0, _ => exact flR (flL (flR (flR (flL (flR (flL (flR (flL (flL (fl0 (by first | exact rfl | decide +kernel) (by exact rfl)))))))))))
  | 1, _ => exact flR (flL (flR (flR (flL (flR (flL (flR (flL (flR (fl0 (by first | exact rfl | decide +kernel) (by exact rfl)))))))))))
  | 2, _ => exact flR (flL (flR (flR (flL (flR (flL (flR (flR (flL (fl0 (by first | exact rfl | decide +kernel) (by exact rfl)))))))))))
  | 3, _ => exact flR (flL (flR (flR (flL (flR (flL (flR (flR (flR (flL (fl0 (by first | exact rfl | decide +kernel) (by exact rfl))))))))))))
  | n + 4, h => exact absurd h (by omega)
set_option maxRecDepth 100000 in
theorem fl_el4 : ∀ j : Nat, j < 4 → Cond.eq (.elem (.field (tmS 4) "java/lang/String" "value" "[B") (.int (Int32.ofNat j))) (.int ((bytS.getD 4 []).getD j 0)) ∈ fl1 := fun j hj => by
  match j, hj with
  | 0, _ => exact flR (flL (flR (flR (flR (flL (flL (flL (flL (flR (fl0 (by first | exact rfl | decide +kernel) (by exact rfl)))))))))))
  | 1, _ => exact flR (flL (flR (flR (flR (flL (flL (flL (flR (flL (fl0 (by first | exact rfl | decide +kernel) (by exact rfl)))))))))))
  | 2, _ => exact flR (flL (flR (flR (flR (flL (flL (flL (flR (flR (flL (fl0 (by first | exact rfl | decide +kernel) (by exact rfl))))))))))))
  | 3, _ => exact flR (flL (flR (flR (flR (flL (flL (flL (flR (flR (flR (fl0 (by first | exact rfl | decide +kernel) (by exact rfl))))))))))))
  | n + 4, h => exact absurd h (by omega)
set_option maxRecDepth 100000 in
theorem fl_el5 : ∀ j : Nat, j < 4 → Cond.eq (.elem (.field (tmS 5) "java/lang/String" "value" "[B") (.int (Int32.ofNat j))) (.int ((bytS.getD 5 []).getD j 0)) ∈ fl1 := fun j hj => by
  match j, hj with
  | 0, _ => exact flR (flL (flR (flR (flR (flL (flR (flR (flR (flR (flL (fl0 (by first | exact rfl | decide +kernel) (by exact rfl))))))))))))
  | 1, _ => exact flR (flL (flR (flR (flR (flL (flR (flR (flR (flR (flR (fl0 (by first | exact rfl | decide +kernel) (by exact rfl))))))))))))
  | 2, _ => exact flR (flL (flR (flR (flR (flR (flL (flL (flL (flL (fl0 (by first | exact rfl | decide +kernel) (by exact rfl)))))))))))
  | 3, _ => exact flR (flL (flR (flR (flR (flR (flL (flL (flL (flR (fl0 (by first | exact rfl | decide +kernel) (by exact rfl)))))))))))
  | n + 4, h => exact absurd h (by omega)
set_option maxRecDepth 100000 in
theorem fl_el6 : ∀ j : Nat, j < 4 → Cond.eq (.elem (.field (tmS 6) "java/lang/String" "value" "[B") (.int (Int32.ofNat j))) (.int ((bytS.getD 6 []).getD j 0)) ∈ fl1 := fun j hj => by
  match j, hj with
  | 0, _ => exact flR (flL (flR (flR (flR (flR (flR (flR (flL (flR (flR (fl0 (by first | exact rfl | decide +kernel) (by exact rfl))))))))))))
  | 1, _ => exact flR (flL (flR (flR (flR (flR (flR (flR (flR (flL (fl0 (by first | exact rfl | decide +kernel) (by exact rfl)))))))))))
  | 2, _ => exact flR (flL (flR (flR (flR (flR (flR (flR (flR (flR (flL (fl0 (by first | exact rfl | decide +kernel) (by exact rfl))))))))))))
  | 3, _ => exact flR (flL (flR (flR (flR (flR (flR (flR (flR (flR (flR (fl0 (by first | exact rfl | decide +kernel) (by exact rfl))))))))))))
  | n + 4, h => exact absurd h (by omega)
set_option maxRecDepth 100000 in
theorem fl_el7 : ∀ j : Nat, j < 5 → Cond.eq (.elem (.field (tmS 7) "java/lang/String" "value" "[B") (.int (Int32.ofNat j))) (.int ((bytS.getD 7 []).getD j 0)) ∈ fl1 := fun j hj => by
  match j, hj with
  | 0, _ => exact flR (flR (flL (flL (flL (flL (flR (flR (flL (flR (fl0 (by first | exact rfl | decide +kernel) (by exact rfl)))))))))))
  | 1, _ => exact flR (flR (flL (flL (flL (flL (flR (flR (flR (flL (fl0 (by first | exact rfl | decide +kernel) (by exact rfl)))))))))))
  | 2, _ => exact flR (flR (flL (flL (flL (flL (flR (flR (flR (flR (flL (fl0 (by first | exact rfl | decide +kernel) (by exact rfl))))))))))))
  | 3, _ => exact flR (flR (flL (flL (flL (flL (flR (flR (flR (flR (flR (fl0 (by first | exact rfl | decide +kernel) (by exact rfl))))))))))))
  | 4, _ => exact flR (flR (flL (flL (flL (flR (flL (flL (flL (flL (fl0 (by first | exact rfl | decide +kernel) (by exact rfl)))))))))))
  | n + 5, h => exact absurd h (by omega)
set_option maxRecDepth 100000 in
theorem fl_el8 : ∀ j : Nat, j < 5 → Cond.eq (.elem (.field (tmS 8) "java/lang/String" "value" "[B") (.int (Int32.ofNat j))) (.int ((bytS.getD 8 []).getD j 0)) ∈ fl1 := fun j hj => by
  match j, hj with
  | 0, _ => exact flR (flR (flL (flL (flL (flR (flR (flR (flR (flL (fl0 (by first | exact rfl | decide +kernel) (by exact rfl)))))))))))
  | 1, _ => exact flR (flR (flL (flL (flL (flR (flR (flR (flR (flR (flL (fl0 (by first | exact rfl | decide +kernel) (by exact rfl))))))))))))
  | 2, _ => exact flR (flR (flL (flL (flL (flR (flR (flR (flR (flR (flR (fl0 (by first | exact rfl | decide +kernel) (by exact rfl))))))))))))
  | 3, _ => exact flR (flR (flL (flL (flR (flL (flL (flL (flL (flL (fl0 (by first | exact rfl | decide +kernel) (by exact rfl)))))))))))
  | 4, _ => exact flR (flR (flL (flL (flR (flL (flL (flL (flL (flR (fl0 (by first | exact rfl | decide +kernel) (by exact rfl)))))))))))
  | n + 5, h => exact absurd h (by omega)
set_option maxRecDepth 100000 in
theorem fl_el9 : ∀ j : Nat, j < 2 → Cond.eq (.elem (.field (tmS 9) "java/lang/String" "value" "[B") (.int (Int32.ofNat j))) (.int ((bytS.getD 9 []).getD j 0)) ∈ fl1 := fun j hj => by
  match j, hj with
  | 0, _ => exact flR (flR (flL (flL (flR (flR (flL (flL (flL (flL (fl0 (by first | exact rfl | decide +kernel) (by exact rfl)))))))))))
  | 1, _ => exact flR (flR (flL (flL (flR (flR (flL (flL (flL (flR (fl0 (by first | exact rfl | decide +kernel) (by exact rfl)))))))))))
  | n + 2, h => exact absurd h (by omega)
set_option maxRecDepth 100000 in
theorem fl_el10 : ∀ j : Nat, j < 3 → Cond.eq (.elem (.field (tmS 10) "java/lang/String" "value" "[B") (.int (Int32.ofNat j))) (.int ((bytS.getD 10 []).getD j 0)) ∈ fl1 := fun j hj => by
  match j, hj with
  | 0, _ => exact flR (flR (flL (flR (flL (flL (flL (flL (flL (flL (fl0 (by first | exact rfl | decide +kernel) (by exact rfl)))))))))))
  | 1, _ => exact flR (flR (flL (flR (flL (flL (flL (flL (flL (flR (fl0 (by first | exact rfl | decide +kernel) (by exact rfl)))))))))))
  | 2, _ => exact flR (flR (flL (flR (flL (flL (flL (flL (flR (flL (fl0 (by first | exact rfl | decide +kernel) (by exact rfl)))))))))))
  | n + 3, h => exact absurd h (by omega)
set_option maxRecDepth 100000 in
theorem fl_el11 : ∀ j : Nat, j < 2 → Cond.eq (.elem (.field (tmS 11) "java/lang/String" "value" "[B") (.int (Int32.ofNat j))) (.int ((bytS.getD 11 []).getD j 0)) ∈ fl1 := fun j hj => by
  match j, hj with
  | 0, _ => exact flR (flR (flL (flR (flL (flR (flL (flL (flR (flR (flL (fl0 (by first | exact rfl | decide +kernel) (by exact rfl))))))))))))
  | 1, _ => exact flR (flR (flL (flR (flL (flR (flL (flL (flR (flR (flR (fl0 (by first | exact rfl | decide +kernel) (by exact rfl))))))))))))
  | n + 2, h => exact absurd h (by omega)
set_option maxRecDepth 100000 in
theorem fl_el12 : ∀ j : Nat, j < 4 → Cond.eq (.elem (.field (tmS 12) "java/lang/String" "value" "[B") (.int (Int32.ofNat j))) (.int ((bytS.getD 12 []).getD j 0)) ∈ fl1 := fun j hj => by
  match j, hj with
  | 0, _ => exact flR (flR (flL (flR (flR (flL (flL (flR (flL (flL (fl0 (by first | exact rfl | decide +kernel) (by exact rfl)))))))))))
  | 1, _ => exact flR (flR (flL (flR (flR (flL (flL (flR (flL (flR (fl0 (by first | exact rfl | decide +kernel) (by exact rfl)))))))))))
  | 2, _ => exact flR (flR (flL (flR (flR (flL (flL (flR (flR (flL (fl0 (by first | exact rfl | decide +kernel) (by exact rfl)))))))))))
  | 3, _ => exact flR (flR (flL (flR (flR (flL (flL (flR (flR (flR (flL (fl0 (by first | exact rfl | decide +kernel) (by exact rfl))))))))))))
  | n + 4, h => exact absurd h (by omega)
set_option maxRecDepth 100000 in
theorem fl_el13 : ∀ j : Nat, j < 4 → Cond.eq (.elem (.field (tmS 13) "java/lang/String" "value" "[B") (.int (Int32.ofNat j))) (.int ((bytS.getD 13 []).getD j 0)) ∈ fl1 := fun j hj => by
  match j, hj with
  | 0, _ => exact flR (flR (flL (flR (flR (flR (flR (flL (flL (flL (fl0 (by first | exact rfl | decide +kernel) (by exact rfl)))))))))))
  | 1, _ => exact flR (flR (flL (flR (flR (flR (flR (flL (flL (flR (fl0 (by first | exact rfl | decide +kernel) (by exact rfl)))))))))))
  | 2, _ => exact flR (flR (flL (flR (flR (flR (flR (flL (flR (flL (fl0 (by first | exact rfl | decide +kernel) (by exact rfl)))))))))))
  | 3, _ => exact flR (flR (flL (flR (flR (flR (flR (flL (flR (flR (flL (fl0 (by first | exact rfl | decide +kernel) (by exact rfl))))))))))))
  | n + 4, h => exact absurd h (by omega)
set_option maxRecDepth 100000 in
theorem fl_el14 : ∀ j : Nat, j < 5 → Cond.eq (.elem (.field (tmS 14) "java/lang/String" "value" "[B") (.int (Int32.ofNat j))) (.int ((bytS.getD 14 []).getD j 0)) ∈ fl1 := fun j hj => by
  match j, hj with
  | 0, _ => exact flR (flR (flR (flL (flL (flL (flR (flR (flL (flR (fl0 (by first | exact rfl | decide +kernel) (by exact rfl)))))))))))
  | 1, _ => exact flR (flR (flR (flL (flL (flL (flR (flR (flR (flL (fl0 (by first | exact rfl | decide +kernel) (by exact rfl)))))))))))
  | 2, _ => exact flR (flR (flR (flL (flL (flL (flR (flR (flR (flR (flL (fl0 (by first | exact rfl | decide +kernel) (by exact rfl))))))))))))
  | 3, _ => exact flR (flR (flR (flL (flL (flL (flR (flR (flR (flR (flR (fl0 (by first | exact rfl | decide +kernel) (by exact rfl))))))))))))
  | 4, _ => exact flR (flR (flR (flL (flL (flR (flL (flL (flL (flL (fl0 (by first | exact rfl | decide +kernel) (by exact rfl)))))))))))
  | n + 5, h => exact absurd h (by omega)
set_option maxRecDepth 100000 in
theorem fl_el15 : ∀ j : Nat, j < 5 → Cond.eq (.elem (.field (tmS 15) "java/lang/String" "value" "[B") (.int (Int32.ofNat j))) (.int ((bytS.getD 15 []).getD j 0)) ∈ fl1 := fun j hj => by
  match j, hj with
  | 0, _ => exact flR (flR (flR (flL (flR (flL (flL (flL (flR (flR (flR (fl0 (by first | exact rfl | decide +kernel) (by exact rfl))))))))))))
  | 1, _ => exact flR (flR (flR (flL (flR (flL (flL (flR (flL (flL (fl0 (by first | exact rfl | decide +kernel) (by exact rfl)))))))))))
  | 2, _ => exact flR (flR (flR (flL (flR (flL (flL (flR (flL (flR (fl0 (by first | exact rfl | decide +kernel) (by exact rfl)))))))))))
  | 3, _ => exact flR (flR (flR (flL (flR (flL (flL (flR (flR (flL (fl0 (by first | exact rfl | decide +kernel) (by exact rfl)))))))))))
  | 4, _ => exact flR (flR (flR (flL (flR (flL (flL (flR (flR (flR (flL (fl0 (by first | exact rfl | decide +kernel) (by exact rfl))))))))))))
  | n + 5, h => exact absurd h (by omega)
set_option maxRecDepth 100000 in
theorem fl_el16 : ∀ j : Nat, j < 4 → Cond.eq (.elem (.field (tmS 16) "java/lang/String" "value" "[B") (.int (Int32.ofNat j))) (.int ((bytS.getD 16 []).getD j 0)) ∈ fl1 := fun j hj => by
  match j, hj with
  | 0, _ => exact flR (flR (flR (flL (flR (flR (flR (flL (flR (flR (flL (fl0 (by first | exact rfl | decide +kernel) (by exact rfl))))))))))))
  | 1, _ => exact flR (flR (flR (flL (flR (flR (flR (flL (flR (flR (flR (fl0 (by first | exact rfl | decide +kernel) (by exact rfl))))))))))))
  | 2, _ => exact flR (flR (flR (flL (flR (flR (flR (flR (flL (flL (fl0 (by first | exact rfl | decide +kernel) (by exact rfl)))))))))))
  | 3, _ => exact flR (flR (flR (flL (flR (flR (flR (flR (flL (flR (flL (fl0 (by first | exact rfl | decide +kernel) (by exact rfl))))))))))))
  | n + 4, h => exact absurd h (by omega)
set_option maxRecDepth 100000 in
theorem fl_el17 : ∀ j : Nat, j < 6 → Cond.eq (.elem (.field (tmS 17) "java/lang/String" "value" "[B") (.int (Int32.ofNat j))) (.int ((bytS.getD 17 []).getD j 0)) ∈ fl1 := fun j hj => by
  match j, hj with
  | 0, _ => exact flR (flR (flR (flR (flL (flR (flL (flL (flR (flL (fl0 (by first | exact rfl | decide +kernel) (by exact rfl)))))))))))
  | 1, _ => exact flR (flR (flR (flR (flL (flR (flL (flL (flR (flR (flL (fl0 (by first | exact rfl | decide +kernel) (by exact rfl))))))))))))
  | 2, _ => exact flR (flR (flR (flR (flL (flR (flL (flL (flR (flR (flR (fl0 (by first | exact rfl | decide +kernel) (by exact rfl))))))))))))
  | 3, _ => exact flR (flR (flR (flR (flL (flR (flL (flR (flL (flL (fl0 (by first | exact rfl | decide +kernel) (by exact rfl)))))))))))
  | 4, _ => exact flR (flR (flR (flR (flL (flR (flL (flR (flL (flR (fl0 (by first | exact rfl | decide +kernel) (by exact rfl)))))))))))
  | 5, _ => exact flR (flR (flR (flR (flL (flR (flL (flR (flR (flL (fl0 (by first | exact rfl | decide +kernel) (by exact rfl)))))))))))
  | n + 6, h => exact absurd h (by omega)
set_option maxRecDepth 100000 in
theorem fl_el18 : ∀ j : Nat, j < 4 → Cond.eq (.elem (.field (tmS 18) "java/lang/String" "value" "[B") (.int (Int32.ofNat j))) (.int ((bytS.getD 18 []).getD j 0)) ∈ fl1 := fun j hj => by
  match j, hj with
  | 0, _ => exact flR (flR (flR (flR (flR (flL (flR (flL (flR (flR (flR (fl0 (by first | exact rfl | decide +kernel) (by exact rfl))))))))))))
  | 1, _ => exact flR (flR (flR (flR (flR (flL (flR (flR (flL (flL (fl0 (by first | exact rfl | decide +kernel) (by exact rfl)))))))))))
  | 2, _ => exact flR (flR (flR (flR (flR (flL (flR (flR (flL (flR (flL (fl0 (by first | exact rfl | decide +kernel) (by exact rfl))))))))))))
  | 3, _ => exact flR (flR (flR (flR (flR (flL (flR (flR (flL (flR (flR (fl0 (by first | exact rfl | decide +kernel) (by exact rfl))))))))))))
  | n + 4, h => exact absurd h (by omega)
set_option maxRecDepth 100000 in
theorem fl_el19 : ∀ j : Nat, j < 94 → Cond.eq (.elem (.field (tmS 19) "java/lang/String" "value" "[B") (.int (Int32.ofNat j))) (.int ((bytS.getD 19 []).getD j 0)) ∈ fl1 := fun j hj => by
  match j, hj with
  | 0, _ => exact flR (flL (flL (flR (flL (flL (flL (flR (flL (flR (fl0 (by first | exact rfl | decide +kernel) (by exact rfl)))))))))))
  | 1, _ => exact flR (flL (flL (flR (flL (flL (flL (flR (flR (flL (fl0 (by first | exact rfl | decide +kernel) (by exact rfl)))))))))))
  | 2, _ => exact flR (flL (flL (flR (flL (flL (flL (flR (flR (flR (flL (fl0 (by first | exact rfl | decide +kernel) (by exact rfl))))))))))))
  | 3, _ => exact flR (flL (flL (flR (flL (flL (flL (flR (flR (flR (flR (fl0 (by first | exact rfl | decide +kernel) (by exact rfl))))))))))))
  | 4, _ => exact flR (flL (flL (flR (flL (flL (flR (flL (flL (flL (fl0 (by first | exact rfl | decide +kernel) (by exact rfl)))))))))))
  | 5, _ => exact flR (flL (flL (flR (flL (flL (flR (flL (flL (flR (fl0 (by first | exact rfl | decide +kernel) (by exact rfl)))))))))))
  | 6, _ => exact flR (flL (flL (flR (flL (flL (flR (flL (flR (flL (fl0 (by first | exact rfl | decide +kernel) (by exact rfl)))))))))))
  | 7, _ => exact flR (flL (flL (flR (flL (flL (flR (flL (flR (flR (flL (fl0 (by first | exact rfl | decide +kernel) (by exact rfl))))))))))))
  | 8, _ => exact flR (flL (flL (flR (flL (flL (flR (flL (flR (flR (flR (fl0 (by first | exact rfl | decide +kernel) (by exact rfl))))))))))))
  | 9, _ => exact flR (flL (flL (flR (flL (flL (flR (flR (flL (flL (fl0 (by first | exact rfl | decide +kernel) (by exact rfl)))))))))))
  | 10, _ => exact flR (flL (flL (flR (flL (flL (flR (flR (flL (flR (fl0 (by first | exact rfl | decide +kernel) (by exact rfl)))))))))))
  | 11, _ => exact flR (flL (flL (flR (flL (flL (flR (flR (flR (flL (fl0 (by first | exact rfl | decide +kernel) (by exact rfl)))))))))))
  | 12, _ => exact flR (flL (flL (flR (flL (flL (flR (flR (flR (flR (flL (fl0 (by first | exact rfl | decide +kernel) (by exact rfl))))))))))))
  | 13, _ => exact flR (flL (flL (flR (flL (flL (flR (flR (flR (flR (flR (fl0 (by first | exact rfl | decide +kernel) (by exact rfl))))))))))))
  | 14, _ => exact flR (flL (flL (flR (flL (flR (flL (flL (flL (flL (fl0 (by first | exact rfl | decide +kernel) (by exact rfl)))))))))))
  | 15, _ => exact flR (flL (flL (flR (flL (flR (flL (flL (flL (flR (fl0 (by first | exact rfl | decide +kernel) (by exact rfl)))))))))))
  | 16, _ => exact flR (flL (flL (flR (flL (flR (flL (flL (flR (flL (fl0 (by first | exact rfl | decide +kernel) (by exact rfl)))))))))))
  | 17, _ => exact flR (flL (flL (flR (flL (flR (flL (flL (flR (flR (flL (fl0 (by first | exact rfl | decide +kernel) (by exact rfl))))))))))))
  | 18, _ => exact flR (flL (flL (flR (flL (flR (flL (flL (flR (flR (flR (fl0 (by first | exact rfl | decide +kernel) (by exact rfl))))))))))))
  | 19, _ => exact flR (flL (flL (flR (flL (flR (flL (flR (flL (flL (fl0 (by first | exact rfl | decide +kernel) (by exact rfl)))))))))))
  | 20, _ => exact flR (flL (flL (flR (flL (flR (flL (flR (flL (flR (fl0 (by first | exact rfl | decide +kernel) (by exact rfl)))))))))))
  | 21, _ => exact flR (flL (flL (flR (flL (flR (flL (flR (flR (flL (fl0 (by first | exact rfl | decide +kernel) (by exact rfl)))))))))))
  | 22, _ => exact flR (flL (flL (flR (flL (flR (flL (flR (flR (flR (flL (fl0 (by first | exact rfl | decide +kernel) (by exact rfl))))))))))))
  | 23, _ => exact flR (flL (flL (flR (flL (flR (flL (flR (flR (flR (flR (fl0 (by first | exact rfl | decide +kernel) (by exact rfl))))))))))))
  | 24, _ => exact flR (flL (flL (flR (flL (flR (flR (flL (flL (flL (fl0 (by first | exact rfl | decide +kernel) (by exact rfl)))))))))))
  | 25, _ => exact flR (flL (flL (flR (flL (flR (flR (flL (flL (flR (fl0 (by first | exact rfl | decide +kernel) (by exact rfl)))))))))))
  | 26, _ => exact flR (flL (flL (flR (flL (flR (flR (flL (flR (flL (fl0 (by first | exact rfl | decide +kernel) (by exact rfl)))))))))))
  | 27, _ => exact flR (flL (flL (flR (flL (flR (flR (flL (flR (flR (flL (fl0 (by first | exact rfl | decide +kernel) (by exact rfl))))))))))))
  | 28, _ => exact flR (flL (flL (flR (flL (flR (flR (flL (flR (flR (flR (fl0 (by first | exact rfl | decide +kernel) (by exact rfl))))))))))))
  | 29, _ => exact flR (flL (flL (flR (flL (flR (flR (flR (flL (flL (fl0 (by first | exact rfl | decide +kernel) (by exact rfl)))))))))))
  | 30, _ => exact flR (flL (flL (flR (flL (flR (flR (flR (flL (flR (flL (fl0 (by first | exact rfl | decide +kernel) (by exact rfl))))))))))))
  | 31, _ => exact flR (flL (flL (flR (flL (flR (flR (flR (flL (flR (flR (fl0 (by first | exact rfl | decide +kernel) (by exact rfl))))))))))))
  | 32, _ => exact flR (flL (flL (flR (flL (flR (flR (flR (flR (flL (fl0 (by first | exact rfl | decide +kernel) (by exact rfl)))))))))))
  | 33, _ => exact flR (flL (flL (flR (flL (flR (flR (flR (flR (flR (flL (fl0 (by first | exact rfl | decide +kernel) (by exact rfl))))))))))))
  | 34, _ => exact flR (flL (flL (flR (flL (flR (flR (flR (flR (flR (flR (fl0 (by first | exact rfl | decide +kernel) (by exact rfl))))))))))))
  | 35, _ => exact flR (flL (flL (flR (flR (flL (flL (flL (flL (flL (fl0 (by first | exact rfl | decide +kernel) (by exact rfl)))))))))))
  | 36, _ => exact flR (flL (flL (flR (flR (flL (flL (flL (flL (flR (fl0 (by first | exact rfl | decide +kernel) (by exact rfl)))))))))))
  | 37, _ => exact flR (flL (flL (flR (flR (flL (flL (flL (flR (flL (fl0 (by first | exact rfl | decide +kernel) (by exact rfl)))))))))))
  | 38, _ => exact flR (flL (flL (flR (flR (flL (flL (flL (flR (flR (flL (fl0 (by first | exact rfl | decide +kernel) (by exact rfl))))))))))))
  | 39, _ => exact flR (flL (flL (flR (flR (flL (flL (flL (flR (flR (flR (fl0 (by first | exact rfl | decide +kernel) (by exact rfl))))))))))))
  | 40, _ => exact flR (flL (flL (flR (flR (flL (flL (flR (flL (flL (fl0 (by first | exact rfl | decide +kernel) (by exact rfl)))))))))))
  | 41, _ => exact flR (flL (flL (flR (flR (flL (flL (flR (flL (flR (fl0 (by first | exact rfl | decide +kernel) (by exact rfl)))))))))))
  | 42, _ => exact flR (flL (flL (flR (flR (flL (flL (flR (flR (flL (fl0 (by first | exact rfl | decide +kernel) (by exact rfl)))))))))))
  | 43, _ => exact flR (flL (flL (flR (flR (flL (flL (flR (flR (flR (flL (fl0 (by first | exact rfl | decide +kernel) (by exact rfl))))))))))))
  | 44, _ => exact flR (flL (flL (flR (flR (flL (flL (flR (flR (flR (flR (fl0 (by first | exact rfl | decide +kernel) (by exact rfl))))))))))))
  | 45, _ => exact flR (flL (flL (flR (flR (flL (flR (flL (flL (flL (fl0 (by first | exact rfl | decide +kernel) (by exact rfl)))))))))))
  | 46, _ => exact flR (flL (flL (flR (flR (flL (flR (flL (flL (flR (fl0 (by first | exact rfl | decide +kernel) (by exact rfl)))))))))))
  | 47, _ => exact flR (flL (flL (flR (flR (flL (flR (flL (flR (flL (fl0 (by first | exact rfl | decide +kernel) (by exact rfl)))))))))))
  | 48, _ => exact flR (flL (flL (flR (flR (flL (flR (flL (flR (flR (flL (fl0 (by first | exact rfl | decide +kernel) (by exact rfl))))))))))))
  | 49, _ => exact flR (flL (flL (flR (flR (flL (flR (flL (flR (flR (flR (fl0 (by first | exact rfl | decide +kernel) (by exact rfl))))))))))))
  | 50, _ => exact flR (flL (flL (flR (flR (flL (flR (flR (flL (flL (fl0 (by first | exact rfl | decide +kernel) (by exact rfl)))))))))))
  | 51, _ => exact flR (flL (flL (flR (flR (flL (flR (flR (flL (flR (flL (fl0 (by first | exact rfl | decide +kernel) (by exact rfl))))))))))))
  | 52, _ => exact flR (flL (flL (flR (flR (flL (flR (flR (flL (flR (flR (fl0 (by first | exact rfl | decide +kernel) (by exact rfl))))))))))))
  | 53, _ => exact flR (flL (flL (flR (flR (flL (flR (flR (flR (flL (fl0 (by first | exact rfl | decide +kernel) (by exact rfl)))))))))))
  | 54, _ => exact flR (flL (flL (flR (flR (flL (flR (flR (flR (flR (flL (fl0 (by first | exact rfl | decide +kernel) (by exact rfl))))))))))))
  | 55, _ => exact flR (flL (flL (flR (flR (flL (flR (flR (flR (flR (flR (fl0 (by first | exact rfl | decide +kernel) (by exact rfl))))))))))))
  | 56, _ => exact flR (flL (flL (flR (flR (flR (flL (flL (flL (flL (fl0 (by first | exact rfl | decide +kernel) (by exact rfl)))))))))))
  | 57, _ => exact flR (flL (flL (flR (flR (flR (flL (flL (flL (flR (fl0 (by first | exact rfl | decide +kernel) (by exact rfl)))))))))))
  | 58, _ => exact flR (flL (flL (flR (flR (flR (flL (flL (flR (flL (fl0 (by first | exact rfl | decide +kernel) (by exact rfl)))))))))))
  | 59, _ => exact flR (flL (flL (flR (flR (flR (flL (flL (flR (flR (flL (fl0 (by first | exact rfl | decide +kernel) (by exact rfl))))))))))))
  | 60, _ => exact flR (flL (flL (flR (flR (flR (flL (flL (flR (flR (flR (fl0 (by first | exact rfl | decide +kernel) (by exact rfl))))))))))))
  | 61, _ => exact flR (flL (flL (flR (flR (flR (flL (flR (flL (flL (fl0 (by first | exact rfl | decide +kernel) (by exact rfl)))))))))))
  | 62, _ => exact flR (flL (flL (flR (flR (flR (flL (flR (flL (flR (fl0 (by first | exact rfl | decide +kernel) (by exact rfl)))))))))))
  | 63, _ => exact flR (flL (flL (flR (flR (flR (flL (flR (flR (flL (fl0 (by first | exact rfl | decide +kernel) (by exact rfl)))))))))))
  | 64, _ => exact flR (flL (flL (flR (flR (flR (flL (flR (flR (flR (flL (fl0 (by first | exact rfl | decide +kernel) (by exact rfl))))))))))))
  | 65, _ => exact flR (flL (flL (flR (flR (flR (flL (flR (flR (flR (flR (fl0 (by first | exact rfl | decide +kernel) (by exact rfl))))))))))))
  | 66, _ => exact flR (flL (flL (flR (flR (flR (flR (flL (flL (flL (fl0 (by first | exact rfl | decide +kernel) (by exact rfl)))))))))))
  | 67, _ => exact flR (flL (flL (flR (flR (flR (flR (flL (flL (flR (fl0 (by first | exact rfl | decide +kernel) (by exact rfl)))))))))))
  | 68, _ => exact flR (flL (flL (flR (flR (flR (flR (flL (flR (flL (fl0 (by first | exact rfl | decide +kernel) (by exact rfl)))))))))))
  | 69, _ => exact flR (flL (flL (flR (flR (flR (flR (flL (flR (flR (flL (fl0 (by first | exact rfl | decide +kernel) (by exact rfl))))))))))))
  | 70, _ => exact flR (flL (flL (flR (flR (flR (flR (flL (flR (flR (flR (fl0 (by first | exact rfl | decide +kernel) (by exact rfl))))))))))))
  | 71, _ => exact flR (flL (flL (flR (flR (flR (flR (flR (flL (flL (fl0 (by first | exact rfl | decide +kernel) (by exact rfl)))))))))))
  | 72, _ => exact flR (flL (flL (flR (flR (flR (flR (flR (flL (flR (flL (fl0 (by first | exact rfl | decide +kernel) (by exact rfl))))))))))))
  | 73, _ => exact flR (flL (flL (flR (flR (flR (flR (flR (flL (flR (flR (fl0 (by first | exact rfl | decide +kernel) (by exact rfl))))))))))))
  | 74, _ => exact flR (flL (flL (flR (flR (flR (flR (flR (flR (flL (fl0 (by first | exact rfl | decide +kernel) (by exact rfl)))))))))))
  | 75, _ => exact flR (flL (flL (flR (flR (flR (flR (flR (flR (flR (flL (fl0 (by first | exact rfl | decide +kernel) (by exact rfl))))))))))))
  | 76, _ => exact flR (flL (flL (flR (flR (flR (flR (flR (flR (flR (flR (fl0 (by first | exact rfl | decide +kernel) (by exact rfl))))))))))))
  | 77, _ => exact flR (flL (flR (flL (flL (flL (flL (flL (flL (flL (fl0 (by first | exact rfl | decide +kernel) (by exact rfl)))))))))))
  | 78, _ => exact flR (flL (flR (flL (flL (flL (flL (flL (flL (flR (fl0 (by first | exact rfl | decide +kernel) (by exact rfl)))))))))))
  | 79, _ => exact flR (flL (flR (flL (flL (flL (flL (flL (flR (flL (fl0 (by first | exact rfl | decide +kernel) (by exact rfl)))))))))))
  | 80, _ => exact flR (flL (flR (flL (flL (flL (flL (flL (flR (flR (flL (fl0 (by first | exact rfl | decide +kernel) (by exact rfl))))))))))))
  | 81, _ => exact flR (flL (flR (flL (flL (flL (flL (flL (flR (flR (flR (fl0 (by first | exact rfl | decide +kernel) (by exact rfl))))))))))))
  | 82, _ => exact flR (flL (flR (flL (flL (flL (flL (flR (flL (flL (fl0 (by first | exact rfl | decide +kernel) (by exact rfl)))))))))))
  | 83, _ => exact flR (flL (flR (flL (flL (flL (flL (flR (flL (flR (fl0 (by first | exact rfl | decide +kernel) (by exact rfl)))))))))))
  | 84, _ => exact flR (flL (flR (flL (flL (flL (flL (flR (flR (flL (fl0 (by first | exact rfl | decide +kernel) (by exact rfl)))))))))))
  | 85, _ => exact flR (flL (flR (flL (flL (flL (flL (flR (flR (flR (flL (fl0 (by first | exact rfl | decide +kernel) (by exact rfl))))))))))))
  | 86, _ => exact flR (flL (flR (flL (flL (flL (flL (flR (flR (flR (flR (fl0 (by first | exact rfl | decide +kernel) (by exact rfl))))))))))))
  | 87, _ => exact flR (flL (flR (flL (flL (flL (flR (flL (flL (flL (fl0 (by first | exact rfl | decide +kernel) (by exact rfl)))))))))))
  | 88, _ => exact flR (flL (flR (flL (flL (flL (flR (flL (flL (flR (fl0 (by first | exact rfl | decide +kernel) (by exact rfl)))))))))))
  | 89, _ => exact flR (flL (flR (flL (flL (flL (flR (flL (flR (flL (fl0 (by first | exact rfl | decide +kernel) (by exact rfl)))))))))))
  | 90, _ => exact flR (flL (flR (flL (flL (flL (flR (flL (flR (flR (flL (fl0 (by first | exact rfl | decide +kernel) (by exact rfl))))))))))))
  | 91, _ => exact flR (flL (flR (flL (flL (flL (flR (flL (flR (flR (flR (fl0 (by first | exact rfl | decide +kernel) (by exact rfl))))))))))))
  | 92, _ => exact flR (flL (flR (flL (flL (flL (flR (flR (flL (flL (fl0 (by first | exact rfl | decide +kernel) (by exact rfl)))))))))))
  | 93, _ => exact flR (flL (flR (flL (flL (flL (flR (flR (flL (flR (fl0 (by first | exact rfl | decide +kernel) (by exact rfl)))))))))))
  | n + 94, h => exact absurd h (by omega)
theorem fl_el : ∀ i : Nat, i < 20 → ∀ j : Nat, j < lenS.getD i 0 → Cond.eq (.elem (.field (tmS i) "java/lang/String" "value" "[B") (.int (Int32.ofNat j))) (.int ((bytS.getD i []).getD j 0)) ∈ fl1 := fun i hi => by
  match i, hi with
  | 0, _ => exact fl_el0
  | 1, _ => exact fl_el1
  | 2, _ => exact fl_el2
  | 3, _ => exact fl_el3
  | 4, _ => exact fl_el4
  | 5, _ => exact fl_el5
  | 6, _ => exact fl_el6
  | 7, _ => exact fl_el7
  | 8, _ => exact fl_el8
  | 9, _ => exact fl_el9
  | 10, _ => exact fl_el10
  | 11, _ => exact fl_el11
  | 12, _ => exact fl_el12
  | 13, _ => exact fl_el13
  | 14, _ => exact fl_el14
  | 15, _ => exact fl_el15
  | 16, _ => exact fl_el16
  | 17, _ => exact fl_el17
  | 18, _ => exact fl_el18
  | 19, _ => exact fl_el19
  | n + 20, h => exact absurd h (by omega)
set_option maxRecDepth 100000 in
theorem fl_ne0 : ∀ j : Nat, j < 20 → 0 ≠ j → Cond.not (Cond.eq (tmS 0) (tmS j)) ∈ fl1 ∨ Cond.not (Cond.eq (tmS j) (tmS 0)) ∈ fl1 := fun j hj hij => by
  match j, hj, hij with
  | 0, _, h => exact absurd rfl h
  | 1, _, _ => exact Or.inl (flR (flL (flR (flR (flL (flL (flL (flL (flR (flR (flR (fl0 (by first | exact rfl | decide +kernel) (by exact rfl)))))))))))))
  | 2, _, _ => exact Or.inl (flR (flL (flR (flR (flL (flL (flR (flR (flR (flR (flR (fl0 (by first | exact rfl | decide +kernel) (by exact rfl)))))))))))))
  | 3, _, _ => exact Or.inl (flR (flL (flR (flR (flL (flR (flR (flR (flL (flL (fl0 (by first | exact rfl | decide +kernel) (by exact rfl))))))))))))
  | 4, _, _ => exact Or.inl (flR (flL (flR (flR (flR (flL (flR (flL (flL (flR (fl0 (by first | exact rfl | decide +kernel) (by exact rfl))))))))))))
  | 5, _, _ => exact Or.inl (flR (flL (flR (flR (flR (flR (flL (flR (flR (flR (flL (fl0 (by first | exact rfl | decide +kernel) (by exact rfl)))))))))))))
  | 6, _, _ => exact Or.inl (flR (flR (flL (flL (flL (flL (flL (flR (flL (flR (fl0 (by first | exact rfl | decide +kernel) (by exact rfl))))))))))))
  | 7, _, _ => exact Or.inl (flR (flR (flL (flL (flL (flR (flL (flR (flR (flL (fl0 (by first | exact rfl | decide +kernel) (by exact rfl))))))))))))
  | 8, _, _ => exact Or.inl (flR (flR (flL (flL (flR (flL (flL (flR (flR (flR (flL (fl0 (by first | exact rfl | decide +kernel) (by exact rfl)))))))))))))
  | 9, _, _ => exact Or.inl (flR (flR (flL (flL (flR (flR (flL (flR (flR (flR (flL (fl0 (by first | exact rfl | decide +kernel) (by exact rfl)))))))))))))
  | 10, _, _ => exact Or.inl (flR (flR (flL (flR (flL (flL (flL (flR (flR (flR (flR (fl0 (by first | exact rfl | decide +kernel) (by exact rfl)))))))))))))
  | 11, _, _ => exact Or.inl (flR (flR (flL (flR (flL (flR (flR (flL (flL (flR (fl0 (by first | exact rfl | decide +kernel) (by exact rfl))))))))))))
  | 12, _, _ => exact Or.inl (flR (flR (flL (flR (flR (flL (flR (flR (flL (flL (fl0 (by first | exact rfl | decide +kernel) (by exact rfl))))))))))))
  | 13, _, _ => exact Or.inl (flR (flR (flL (flR (flR (flR (flR (flR (flR (flR (flR (fl0 (by first | exact rfl | decide +kernel) (by exact rfl)))))))))))))
  | 14, _, _ => exact Or.inl (flR (flR (flR (flL (flL (flR (flL (flR (flR (flL (fl0 (by first | exact rfl | decide +kernel) (by exact rfl))))))))))))
  | 15, _, _ => exact Or.inl (flR (flR (flR (flL (flR (flL (flR (flR (flL (flL (fl0 (by first | exact rfl | decide +kernel) (by exact rfl))))))))))))
  | 16, _, _ => exact Or.inl (flR (flR (flR (flR (flL (flL (flL (flL (flR (flL (fl0 (by first | exact rfl | decide +kernel) (by exact rfl))))))))))))
  | 17, _, _ => exact Or.inl (flR (flR (flR (flR (flL (flR (flR (flL (flR (flR (flR (fl0 (by first | exact rfl | decide +kernel) (by exact rfl)))))))))))))
  | 18, _, _ => exact Or.inl (flR (flR (flR (flR (flR (flR (flL (flL (flR (flR (flL (fl0 (by first | exact rfl | decide +kernel) (by exact rfl)))))))))))))
  | 19, _, _ => exact Or.inr (flR (flL (flR (flL (flR (flR (flL (flR (flR (flR (flR (fl0 (by first | exact rfl | decide +kernel) (by exact rfl)))))))))))))
  | n + 20, h, _ => exact absurd h (by omega)
set_option maxRecDepth 100000 in
theorem fl_ne1 : ∀ j : Nat, j < 20 → 1 ≠ j → Cond.not (Cond.eq (tmS 1) (tmS j)) ∈ fl1 ∨ Cond.not (Cond.eq (tmS j) (tmS 1)) ∈ fl1 := fun j hj hij => by
  match j, hj, hij with
  | 0, _, _ => exact (fl_ne0 1 (by decide) (by decide)).symm
  | 1, _, h => exact absurd rfl h
  | 2, _, _ => exact Or.inl (flR (flL (flR (flR (flL (flR (flL (flL (flL (flL (fl0 (by first | exact rfl | decide +kernel) (by exact rfl))))))))))))
  | 3, _, _ => exact Or.inl (flR (flL (flR (flR (flL (flR (flR (flR (flL (flR (flL (fl0 (by first | exact rfl | decide +kernel) (by exact rfl)))))))))))))
  | 4, _, _ => exact Or.inl (flR (flL (flR (flR (flR (flL (flR (flL (flR (flL (fl0 (by first | exact rfl | decide +kernel) (by exact rfl))))))))))))
  | 5, _, _ => exact Or.inl (flR (flL (flR (flR (flR (flR (flL (flR (flR (flR (flR (fl0 (by first | exact rfl | decide +kernel) (by exact rfl)))))))))))))
  | 6, _, _ => exact Or.inl (flR (flR (flL (flL (flL (flL (flL (flR (flR (flL (fl0 (by first | exact rfl | decide +kernel) (by exact rfl))))))))))))
  | 7, _, _ => exact Or.inl (flR (flR (flL (flL (flL (flR (flL (flR (flR (flR (flL (fl0 (by first | exact rfl | decide +kernel) (by exact rfl)))))))))))))
  | 8, _, _ => exact Or.inl (flR (flR (flL (flL (flR (flL (flL (flR (flR (flR (flR (fl0 (by first | exact rfl | decide +kernel) (by exact rfl)))))))))))))
  | 9, _, _ => exact Or.inl (flR (flR (flL (flL (flR (flR (flL (flR (flR (flR (flR (fl0 (by first | exact rfl | decide +kernel) (by exact rfl)))))))))))))
  | 10, _, _ => exact Or.inl (flR (flR (flL (flR (flL (flL (flR (flL (flL (flL (fl0 (by first | exact rfl | decide +kernel) (by exact rfl))))))))))))
  | 11, _, _ => exact Or.inl (flR (flR (flL (flR (flL (flR (flR (flL (flR (flL (fl0 (by first | exact rfl | decide +kernel) (by exact rfl))))))))))))
  | 12, _, _ => exact Or.inl (flR (flR (flL (flR (flR (flL (flR (flR (flL (flR (flL (fl0 (by first | exact rfl | decide +kernel) (by exact rfl)))))))))))))
  | 13, _, _ => exact Or.inl (flR (flR (flR (flL (flL (flL (flL (flL (flL (flL (fl0 (by first | exact rfl | decide +kernel) (by exact rfl))))))))))))
  | 14, _, _ => exact Or.inl (flR (flR (flR (flL (flL (flR (flL (flR (flR (flR (flL (fl0 (by first | exact rfl | decide +kernel) (by exact rfl)))))))))))))
  | 15, _, _ => exact Or.inl (flR (flR (flR (flL (flR (flL (flR (flR (flL (flR (flL (fl0 (by first | exact rfl | decide +kernel) (by exact rfl)))))))))))))
  | 16, _, _ => exact Or.inl (flR (flR (flR (flR (flL (flL (flL (flL (flR (flR (flL (fl0 (by first | exact rfl | decide +kernel) (by exact rfl)))))))))))))
  | 17, _, _ => exact Or.inl (flR (flR (flR (flR (flL (flR (flR (flR (flL (flL (fl0 (by first | exact rfl | decide +kernel) (by exact rfl))))))))))))
  | 18, _, _ => exact Or.inl (flR (flR (flR (flR (flR (flR (flL (flL (flR (flR (flR (fl0 (by first | exact rfl | decide +kernel) (by exact rfl)))))))))))))
  | 19, _, _ => exact Or.inr (flR (flL (flR (flR (flL (flL (flL (flL (flL (flR (fl0 (by first | exact rfl | decide +kernel) (by exact rfl))))))))))))
  | n + 20, h, _ => exact absurd h (by omega)
set_option maxRecDepth 100000 in
theorem fl_ne2 : ∀ j : Nat, j < 20 → 2 ≠ j → Cond.not (Cond.eq (tmS 2) (tmS j)) ∈ fl1 ∨ Cond.not (Cond.eq (tmS j) (tmS 2)) ∈ fl1 := fun j hj hij => by
  match j, hj, hij with
  | 0, _, _ => exact (fl_ne0 2 (by decide) (by decide)).symm
  | 1, _, _ => exact (fl_ne1 2 (by decide) (by decide)).symm
  | 2, _, h => exact absurd rfl h
  | 3, _, _ => exact Or.inl (flR (flL (flR (flR (flL (flR (flR (flR (flL (flR (flR (fl0 (by first | exact rfl | decide +kernel) (by exact rfl)))))))))))))
  | 4, _, _ => exact Or.inl (flR (flL (flR (flR (flR (flL (flR (flL (flR (flR (flL (fl0 (by first | exact rfl | decide +kernel) (by exact rfl)))))))))))))
  | 5, _, _ => exact Or.inl (flR (flL (flR (flR (flR (flR (flR (flL (flL (flL (fl0 (by first | exact rfl | decide +kernel) (by exact rfl))))))))))))
  | 6, _, _ => exact Or.inl (flR (flR (flL (flL (flL (flL (flL (flR (flR (flR (flL (fl0 (by first | exact rfl | decide +kernel) (by exact rfl)))))))))))))
  | 7, _, _ => exact Or.inl (flR (flR (flL (flL (flL (flR (flL (flR (flR (flR (flR (fl0 (by first | exact rfl | decide +kernel) (by exact rfl)))))))))))))
  | 8, _, _ => exact Or.inl (flR (flR (flL (flL (flR (flL (flR (flL (flL (flL (fl0 (by first | exact rfl | decide +kernel) (by exact rfl))))))))))))
  | 9, _, _ => exact Or.inl (flR (flR (flL (flL (flR (flR (flR (flL (flL (flL (fl0 (by first | exact rfl | decide +kernel) (by exact rfl))))))))))))
  | 10, _, _ => exact Or.inl (flR (flR (flL (flR (flL (flL (flR (flL (flL (flR (fl0 (by first | exact rfl | decide +kernel) (by exact rfl))))))))))))
  | 11, _, _ => exact Or.inl (flR (flR (flL (flR (flL (flR (flR (flL (flR (flR (flL (fl0 (by first | exact rfl | decide +kernel) (by exact rfl)))))))))))))
  | 12, _, _ => exact Or.inl (flR (flR (flL (flR (flR (flL (flR (flR (flL (flR (flR (fl0 (by first | exact rfl | decide +kernel) (by exact rfl)))))))))))))
  | 13, _, _ => exact Or.inl (flR (flR (flR (flL (flL (flL (flL (flL (flL (flR (fl0 (by first | exact rfl | decide +kernel) (by exact rfl))))))))))))
  | 14, _, _ => exact Or.inl (flR (flR (flR (flL (flL (flR (flL (flR (flR (flR (flR (fl0 (by first | exact rfl | decide +kernel) (by exact rfl)))))))))))))
  | 15, _, _ => exact Or.inl (flR (flR (flR (flL (flR (flL (flR (flR (flL (flR (flR (fl0 (by first | exact rfl | decide +kernel) (by exact rfl)))))))))))))
  | 16, _, _ => exact Or.inl (flR (flR (flR (flR (flL (flL (flL (flL (flR (flR (flR (fl0 (by first | exact rfl | decide +kernel) (by exact rfl)))))))))))))
  | 17, _, _ => exact Or.inl (flR (flR (flR (flR (flL (flR (flR (flR (flL (flR (flL (fl0 (by first | exact rfl | decide +kernel) (by exact rfl)))))))))))))
  | 18, _, _ => exact Or.inl (flR (flR (flR (flR (flR (flR (flL (flR (flL (flL (fl0 (by first | exact rfl | decide +kernel) (by exact rfl))))))))))))
  | 19, _, _ => exact Or.inr (flR (flL (flR (flR (flL (flL (flR (flR (flL (flR (fl0 (by first | exact rfl | decide +kernel) (by exact rfl))))))))))))
  | n + 20, h, _ => exact absurd h (by omega)
set_option maxRecDepth 100000 in
theorem fl_ne3 : ∀ j : Nat, j < 20 → 3 ≠ j → Cond.not (Cond.eq (tmS 3) (tmS j)) ∈ fl1 ∨ Cond.not (Cond.eq (tmS j) (tmS 3)) ∈ fl1 := fun j hj hij => by
  match j, hj, hij with
  | 0, _, _ => exact (fl_ne0 3 (by decide) (by decide)).symm
  | 1, _, _ => exact (fl_ne1 3 (by decide) (by decide)).symm
  | 2, _, _ => exact (fl_ne2 3 (by decide) (by decide)).symm
  | 3, _, h => exact absurd rfl h
  | 4, _, _ => exact Or.inl (flR (flL (flR (flR (flR (flL (flR (flL (flR (flR (flR (fl0 (by first | exact rfl | decide +kernel) (by exact rfl)))))))))))))
  | 5, _, _ => exact Or.inl (flR (flL (flR (flR (flR (flR (flR (flL (flL (flR (fl0 (by first | exact rfl | decide +kernel) (by exact rfl))))))))))))
  | 6, _, _ => exact Or.inl (flR (flR (flL (flL (flL (flL (flL (flR (flR (flR (flR (fl0 (by first | exact rfl | decide +kernel) (by exact rfl)))))))))))))
  | 7, _, _ => exact Or.inl (flR (flR (flL (flL (flL (flR (flR (flL (flL (flL (fl0 (by first | exact rfl | decide +kernel) (by exact rfl))))))))))))
  | 8, _, _ => exact Or.inl (flR (flR (flL (flL (flR (flL (flR (flL (flL (flR (fl0 (by first | exact rfl | decide +kernel) (by exact rfl))))))))))))
  | 9, _, _ => exact Or.inl (flR (flR (flL (flL (flR (flR (flR (flL (flL (flR (fl0 (by first | exact rfl | decide +kernel) (by exact rfl))))))))))))
  | 10, _, _ => exact Or.inl (flR (flR (flL (flR (flL (flL (flR (flL (flR (flL (fl0 (by first | exact rfl | decide +kernel) (by exact rfl))))))))))))
  | 11, _, _ => exact Or.inl (flR (flR (flL (flR (flL (flR (flR (flL (flR (flR (flR (fl0 (by first | exact rfl | decide +kernel) (by exact rfl)))))))))))))
  | 12, _, _ => exact Or.inl (flR (flR (flL (flR (flR (flL (flR (flR (flR (flL (fl0 (by first | exact rfl | decide +kernel) (by exact rfl))))))))))))
  | 13, _, _ => exact Or.inl (flR (flR (flR (flL (flL (flL (flL (flL (flR (flL (fl0 (by first | exact rfl | decide +kernel) (by exact rfl))))))))))))
  | 14, _, _ => exact Or.inl (flR (flR (flR (flL (flL (flR (flR (flL (flL (flL (fl0 (by first | exact rfl | decide +kernel) (by exact rfl))))))))))))
  | 15, _, _ => exact Or.inl (flR (flR (flR (flL (flR (flL (flR (flR (flR (flL (fl0 (by first | exact rfl | decide +kernel) (by exact rfl))))))))))))
  | 16, _, _ => exact Or.inl (flR (flR (flR (flR (flL (flL (flL (flR (flL (flL (fl0 (by first | exact rfl | decide +kernel) (by exact rfl))))))))))))
  | 17, _, _ => exact Or.inl (flR (flR (flR (flR (flL (flR (flR (flR (flL (flR (flR (fl0 (by first | exact rfl | decide +kernel) (by exact rfl)))))))))))))
  | 18, _, _ => exact Or.inl (flR (flR (flR (flR (flR (flR (flL (flR (flL (flR (fl0 (by first | exact rfl | decide +kernel) (by exact rfl))))))))))))
  | 19, _, _ => exact Or.inr (flR (flL (flR (flR (flL (flR (flR (flL (flR (flL (fl0 (by first | exact rfl | decide +kernel) (by exact rfl))))))))))))
  | n + 20, h, _ => exact absurd h (by omega)
set_option maxRecDepth 100000 in
theorem fl_ne4 : ∀ j : Nat, j < 20 → 4 ≠ j → Cond.not (Cond.eq (tmS 4) (tmS j)) ∈ fl1 ∨ Cond.not (Cond.eq (tmS j) (tmS 4)) ∈ fl1 := fun j hj hij => by
  match j, hj, hij with
  | 0, _, _ => exact (fl_ne0 4 (by decide) (by decide)).symm
  | 1, _, _ => exact (fl_ne1 4 (by decide) (by decide)).symm
  | 2, _, _ => exact (fl_ne2 4 (by decide) (by decide)).symm
  | 3, _, _ => exact (fl_ne3 4 (by decide) (by decide)).symm
  | 4, _, h => exact absurd rfl h
  | 5, _, _ => exact Or.inl (flR (flL (flR (flR (flR (flR (flR (flL (flR (flL (fl0 (by first | exact rfl | decide +kernel) (by exact rfl))))))))))))
  | 6, _, _ => exact Or.inl (flR (flR (flL (flL (flL (flL (flR (flL (flL (flL (fl0 (by first | exact rfl | decide +kernel) (by exact rfl))))))))))))
  | 7, _, _ => exact Or.inl (flR (flR (flL (flL (flL (flR (flR (flL (flL (flR (fl0 (by first | exact rfl | decide +kernel) (by exact rfl))))))))))))
  | 8, _, _ => exact Or.inl (flR (flR (flL (flL (flR (flL (flR (flL (flR (flL (fl0 (by first | exact rfl | decide +kernel) (by exact rfl))))))))))))
  | 9, _, _ => exact Or.inl (flR (flR (flL (flL (flR (flR (flR (flL (flR (flL (fl0 (by first | exact rfl | decide +kernel) (by exact rfl))))))))))))
  | 10, _, _ => exact Or.inl (flR (flR (flL (flR (flL (flL (flR (flL (flR (flR (flL (fl0 (by first | exact rfl | decide +kernel) (by exact rfl)))))))))))))
  | 11, _, _ => exact Or.inl (flR (flR (flL (flR (flL (flR (flR (flR (flL (flL (fl0 (by first | exact rfl | decide +kernel) (by exact rfl))))))))))))
  | 12, _, _ => exact Or.inl (flR (flR (flL (flR (flR (flL (flR (flR (flR (flR (flL (fl0 (by first | exact rfl | decide +kernel) (by exact rfl)))))))))))))
  | 13, _, _ => exact Or.inl (flR (flR (flR (flL (flL (flL (flL (flL (flR (flR (flL (fl0 (by first | exact rfl | decide +kernel) (by exact rfl)))))))))))))
  | 14, _, _ => exact Or.inl (flR (flR (flR (flL (flL (flR (flR (flL (flL (flR (fl0 (by first | exact rfl | decide +kernel) (by exact rfl))))))))))))
  | 15, _, _ => exact Or.inl (flR (flR (flR (flL (flR (flL (flR (flR (flR (flR (flL (fl0 (by first | exact rfl | decide +kernel) (by exact rfl)))))))))))))
  | 16, _, _ => exact Or.inl (flR (flR (flR (flR (flL (flL (flL (flR (flL (flR (fl0 (by first | exact rfl | decide +kernel) (by exact rfl))))))))))))
  | 17, _, _ => exact Or.inl (flR (flR (flR (flR (flL (flR (flR (flR (flR (flL (fl0 (by first | exact rfl | decide +kernel) (by exact rfl))))))))))))
  | 18, _, _ => exact Or.inl (flR (flR (flR (flR (flR (flR (flL (flR (flR (flL (fl0 (by first | exact rfl | decide +kernel) (by exact rfl))))))))))))
  | 19, _, _ => exact Or.inr (flR (flL (flR (flR (flR (flL (flL (flR (flR (flR (flL (fl0 (by first | exact rfl | decide +kernel) (by exact rfl)))))))))))))
  | n + 20, h, _ => exact absurd h (by omega)
set_option maxRecDepth 100000 in
theorem fl_ne5 : ∀ j : Nat, j < 20 → 5 ≠ j → Cond.not (Cond.eq (tmS 5) (tmS j)) ∈ fl1 ∨ Cond.not (Cond.eq (tmS j) (tmS 5)) ∈ fl1 := fun j hj hij => by
  match j, hj, hij with
  | 0, _, _ => exact (fl_ne0 5 (by decide) (by decide)).symm
  | 1, _, _ => exact (fl_ne1 5 (by decide) (by decide)).symm
  | 2, _, _ => exact (fl_ne2 5 (by decide) (by decide)).symm
  | 3, _, _ => exact (fl_ne3 5 (by decide) (by decide)).symm
  | 4, _, _ => exact (fl_ne4 5 (by decide) (by decide)).symm
  | 5, _, h => exact absurd rfl h
  | 6, _, _ => exact Or.inl (flR (flR (flL (flL (flL (flL (flR (flL (flL (flR (fl0 (by first | exact rfl | decide +kernel) (by exact rfl))))))))))))
  | 7, _, _ => exact Or.inl (flR (flR (flL (flL (flL (flR (flR (flL (flR (flL (fl0 (by first | exact rfl | decide +kernel) (by exact rfl))))))))))))
  | 8, _, _ => exact Or.inl (flR (flR (flL (flL (flR (flL (flR (flL (flR (flR (flL (fl0 (by first | exact rfl | decide +kernel) (by exact rfl)))))))))))))
  | 9, _, _ => exact Or.inl (flR (flR (flL (flL (flR (flR (flR (flL (flR (flR (flL (fl0 (by first | exact rfl | decide +kernel) (by exact rfl)))))))))))))
  | 10, _, _ => exact Or.inl (flR (flR (flL (flR (flL (flL (flR (flL (flR (flR (flR (fl0 (by first | exact rfl | decide +kernel) (by exact rfl)))))))))))))
  | 11, _, _ => exact Or.inl (flR (flR (flL (flR (flL (flR (flR (flR (flL (flR (flL (fl0 (by first | exact rfl | decide +kernel) (by exact rfl)))))))))))))
  | 12, _, _ => exact Or.inl (flR (flR (flL (flR (flR (flL (flR (flR (flR (flR (flR (fl0 (by first | exact rfl | decide +kernel) (by exact rfl)))))))))))))
  | 13, _, _ => exact Or.inl (flR (flR (flR (flL (flL (flL (flL (flL (flR (flR (flR (fl0 (by first | exact rfl | decide +kernel) (by exact rfl)))))))))))))
  | 14, _, _ => exact Or.inl (flR (flR (flR (flL (flL (flR (flR (flL (flR (flL (fl0 (by first | exact rfl | decide +kernel) (by exact rfl))))))))))))
  | 15, _, _ => exact Or.inl (flR (flR (flR (flL (flR (flL (flR (flR (flR (flR (flR (fl0 (by first | exact rfl | decide +kernel) (by exact rfl)))))))))))))
  | 16, _, _ => exact Or.inl (flR (flR (flR (flR (flL (flL (flL (flR (flR (flL (fl0 (by first | exact rfl | decide +kernel) (by exact rfl))))))))))))
  | 17, _, _ => exact Or.inl (flR (flR (flR (flR (flL (flR (flR (flR (flR (flR (flL (fl0 (by first | exact rfl | decide +kernel) (by exact rfl)))))))))))))
  | 18, _, _ => exact Or.inl (flR (flR (flR (flR (flR (flR (flL (flR (flR (flR (flL (fl0 (by first | exact rfl | decide +kernel) (by exact rfl)))))))))))))
  | 19, _, _ => exact Or.inr (flR (flL (flR (flR (flR (flR (flL (flR (flL (flL (fl0 (by first | exact rfl | decide +kernel) (by exact rfl))))))))))))
  | n + 20, h, _ => exact absurd h (by omega)
set_option maxRecDepth 100000 in
theorem fl_ne6 : ∀ j : Nat, j < 20 → 6 ≠ j → Cond.not (Cond.eq (tmS 6) (tmS j)) ∈ fl1 ∨ Cond.not (Cond.eq (tmS j) (tmS 6)) ∈ fl1 := fun j hj hij => by
  match j, hj, hij with
  | 0, _, _ => exact (fl_ne0 6 (by decide) (by decide)).symm
  | 1, _, _ => exact (fl_ne1 6 (by decide) (by decide)).symm
  | 2, _, _ => exact (fl_ne2 6 (by decide) (by decide)).symm
  | 3, _, _ => exact (fl_ne3 6 (by decide) (by decide)).symm
  | 4, _, _ => exact (fl_ne4 6 (by decide) (by decide)).symm
  | 5, _, _ => exact (fl_ne5 6 (by decide) (by decide)).symm
  | 6, _, h => exact absurd rfl h
  | 7, _, _ => exact Or.inl (flR (flR (flL (flL (flL (flR (flR (flL (flR (flR (flL (fl0 (by first | exact rfl | decide +kernel) (by exact rfl)))))))))))))
  | 8, _, _ => exact Or.inl (flR (flR (flL (flL (flR (flL (flR (flL (flR (flR (flR (fl0 (by first | exact rfl | decide +kernel) (by exact rfl)))))))))))))
  | 9, _, _ => exact Or.inl (flR (flR (flL (flL (flR (flR (flR (flL (flR (flR (flR (fl0 (by first | exact rfl | decide +kernel) (by exact rfl)))))))))))))
  | 10, _, _ => exact Or.inl (flR (flR (flL (flR (flL (flL (flR (flR (flL (flL (fl0 (by first | exact rfl | decide +kernel) (by exact rfl))))))))))))
  | 11, _, _ => exact Or.inl (flR (flR (flL (flR (flL (flR (flR (flR (flL (flR (flR (fl0 (by first | exact rfl | decide +kernel) (by exact rfl)))))))))))))
  | 12, _, _ => exact Or.inl (flR (flR (flL (flR (flR (flR (flL (flL (flL (flL (fl0 (by first | exact rfl | decide +kernel) (by exact rfl))))))))))))
  | 13, _, _ => exact Or.inl (flR (flR (flR (flL (flL (flL (flL (flR (flL (flL (fl0 (by first | exact rfl | decide +kernel) (by exact rfl))))))))))))
  | 14, _, _ => exact Or.inl (flR (flR (flR (flL (flL (flR (flR (flL (flR (flR (flL (fl0 (by first | exact rfl | decide +kernel) (by exact rfl)))))))))))))
  | 15, _, _ => exact Or.inl (flR (flR (flR (flL (flR (flR (flL (flL (flL (flL (fl0 (by first | exact rfl | decide +kernel) (by exact rfl))))))))))))
  | 16, _, _ => exact Or.inl (flR (flR (flR (flR (flL (flL (flL (flR (flR (flR (flL (fl0 (by first | exact rfl | decide +kernel) (by exact rfl)))))))))))))
  | 17, _, _ => exact Or.inl (flR (flR (flR (flR (flL (flR (flR (flR (flR (flR (flR (fl0 (by first | exact rfl | decide +kernel) (by exact rfl)))))))))))))
  | 18, _, _ => exact Or.inl (flR (flR (flR (flR (flR (flR (flL (flR (flR (flR (flR (fl0 (by first | exact rfl | decide +kernel) (by exact rfl)))))))))))))
  | 19, _, _ => exact Or.inr (flR (flR (flL (flL (flL (flL (flL (flL (flR (flR (flL (fl0 (by first | exact rfl | decide +kernel) (by exact rfl)))))))))))))
  | n + 20, h, _ => exact absurd h (by omega)
set_option maxRecDepth 100000 in
theorem fl_ne7 : ∀ j : Nat, j < 20 → 7 ≠ j → Cond.not (Cond.eq (tmS 7) (tmS j)) ∈ fl1 ∨ Cond.not (Cond.eq (tmS j) (tmS 7)) ∈ fl1 := fun j hj hij => by
  match j, hj, hij with
  | 0, _, _ => exact (fl_ne0 7 (by decide) (by decide)).symm
  | 1, _, _ => exact (fl_ne1 7 (by decide) (by decide)).symm
  | 2, _, _ => exact (fl_ne2 7 (by decide) (by decide)).symm
  | 3, _, _ => exact (fl_ne3 7 (by decide) (by decide)).symm
  | 4, _, _ => exact (fl_ne4 7 (by decide) (by decide)).symm
  | 5, _, _ => exact (fl_ne5 7 (by decide) (by decide)).symm
  | 6, _, _ => exact (fl_ne6 7 (by decide) (by decide)).symm
  | 7, _, h => exact absurd rfl h
  | 8, _, _ => exact Or.inl (flR (flR (flL (flL (flR (flL (flR (flR (flL (flL (fl0 (by first | exact rfl | decide +kernel) (by exact rfl))))))))))))
  | 9, _, _ => exact Or.inl (flR (flR (flL (flL (flR (flR (flR (flR (flL (flL (fl0 (by first | exact rfl | decide +kernel) (by exact rfl))))))))))))
  | 10, _, _ => exact Or.inl (flR (flR (flL (flR (flL (flL (flR (flR (flL (flR (fl0 (by first | exact rfl | decide +kernel) (by exact rfl))))))))))))
  | 11, _, _ => exact Or.inl (flR (flR (flL (flR (flL (flR (flR (flR (flR (flL (fl0 (by first | exact rfl | decide +kernel) (by exact rfl))))))))))))
  | 12, _, _ => exact Or.inl (flR (flR (flL (flR (flR (flR (flL (flL (flL (flR (fl0 (by first | exact rfl | decide +kernel) (by exact rfl))))))))))))
  | 13, _, _ => exact Or.inl (flR (flR (flR (flL (flL (flL (flL (flR (flL (flR (fl0 (by first | exact rfl | decide +kernel) (by exact rfl))))))))))))
  | 14, _, _ => exact Or.inl (flR (flR (flR (flL (flL (flR (flR (flL (flR (flR (flR (fl0 (by first | exact rfl | decide +kernel) (by exact rfl)))))))))))))
  | 15, _, _ => exact Or.inl (flR (flR (flR (flL (flR (flR (flL (flL (flL (flR (fl0 (by first | exact rfl | decide +kernel) (by exact rfl))))))))))))
  | 16, _, _ => exact Or.inl (flR (flR (flR (flR (flL (flL (flL (flR (flR (flR (flR (fl0 (by first | exact rfl | decide +kernel) (by exact rfl)))))))))))))
  | 17, _, _ => exact Or.inl (flR (flR (flR (flR (flR (flL (flL (flL (flL (flL (fl0 (by first | exact rfl | decide +kernel) (by exact rfl))))))))))))
  | 18, _, _ => exact Or.inl (flR (flR (flR (flR (flR (flR (flR (flL (flL (flL (fl0 (by first | exact rfl | decide +kernel) (by exact rfl))))))))))))
  | 19, _, _ => exact Or.inr (flR (flR (flL (flL (flL (flR (flL (flL (flR (flR (flR (fl0 (by first | exact rfl | decide +kernel) (by exact rfl)))))))))))))
  | n + 20, h, _ => exact absurd h (by omega)
set_option maxRecDepth 100000 in
theorem fl_ne8 : ∀ j : Nat, j < 20 → 8 ≠ j → Cond.not (Cond.eq (tmS 8) (tmS j)) ∈ fl1 ∨ Cond.not (Cond.eq (tmS j) (tmS 8)) ∈ fl1 := fun j hj hij => by
  match j, hj, hij with
  | 0, _, _ => exact (fl_ne0 8 (by decide) (by decide)).symm
  | 1, _, _ => exact (fl_ne1 8 (by decide) (by decide)).symm
  | 2, _, _ => exact (fl_ne2 8 (by decide) (by decide)).symm
  | 3, _, _ => exact (fl_ne3 8 (by decide) (by decide)).symm
  | 4, _, _ => exact (fl_ne4 8 (by decide) (by decide)).symm
  | 5, _, _ => exact (fl_ne5 8 (by decide) (by decide)).symm
  | 6, _, _ => exact (fl_ne6 8 (by decide) (by decide)).symm
  | 7, _, _ => exact (fl_ne7 8 (by decide) (by decide)).symm
  | 8, _, h => exact absurd rfl h
  | 9, _, _ => exact Or.inl (flR (flR (flL (flL (flR (flR (flR (flR (flL (flR (flL (fl0 (by first | exact rfl | decide +kernel) (by exact rfl)))))))))))))
  | 10, _, _ => exact Or.inl (flR (flR (flL (flR (flL (flL (flR (flR (flR (flL (fl0 (by first | exact rfl | decide +kernel) (by exact rfl))))))))))))
  | 11, _, _ => exact Or.inl (flR (flR (flL (flR (flL (flR (flR (flR (flR (flR (flL (fl0 (by first | exact rfl | decide +kernel) (by exact rfl)))))))))))))
  | 12, _, _ => exact Or.inl (flR (flR (flL (flR (flR (flR (flL (flL (flR (flL (fl0 (by first | exact rfl | decide +kernel) (by exact rfl))))))))))))
  | 13, _, _ => exact Or.inl (flR (flR (flR (flL (flL (flL (flL (flR (flR (flL (fl0 (by first | exact rfl | decide +kernel) (by exact rfl))))))))))))
  | 14, _, _ => exact Or.inl (flR (flR (flR (flL (flL (flR (flR (flR (flL (flL (fl0 (by first | exact rfl | decide +kernel) (by exact rfl))))))))))))
  | 15, _, _ => exact Or.inl (flR (flR (flR (flL (flR (flR (flL (flL (flR (flL (fl0 (by first | exact rfl | decide +kernel) (by exact rfl))))))))))))
  | 16, _, _ => exact Or.inl (flR (flR (flR (flR (flL (flL (flR (flL (flL (flL (fl0 (by first | exact rfl | decide +kernel) (by exact rfl))))))))))))
  | 17, _, _ => exact Or.inl (flR (flR (flR (flR (flR (flL (flL (flL (flL (flR (fl0 (by first | exact rfl | decide +kernel) (by exact rfl))))))))))))
  | 18, _, _ => exact Or.inl (flR (flR (flR (flR (flR (flR (flR (flL (flL (flR (fl0 (by first | exact rfl | decide +kernel) (by exact rfl))))))))))))
  | 19, _, _ => exact Or.inr (flR (flR (flL (flL (flR (flL (flL (flR (flL (flL (fl0 (by first | exact rfl | decide +kernel) (by exact rfl))))))))))))
  | n + 20, h, _ => exact absurd h (by omega)
set_option maxRecDepth 100000 in
theorem fl_ne9 : ∀ j : Nat, j < 20 → 9 ≠ j → Cond.not (Cond.eq (tmS 9) (tmS j)) ∈ fl1 ∨ Cond.not (Cond.eq (tmS j) (tmS 9)) ∈ fl1 := fun j hj hij => by
  match j, hj, hij with
  | 0, _, _ => exact (fl_ne0 9 (by decide) (by decide)).symm
  | 1, _, _ => exact (fl_ne1 9 (by decide) (by decide)).symm
  | 2, _, _ => exact (fl_ne2 9 (by decide) (by decide)).symm
  | 3, _, _ => exact (fl_ne3 9 (by decide) (by decide)).symm
  | 4, _, _ => exact (fl_ne4 9 (by decide) (by decide)).symm
  | 5, _, _ => exact (fl_ne5 9 (by decide) (by decide)).symm
  | 6, _, _ => exact (fl_ne6 9 (by decide) (by decide)).symm
  | 7, _, _ => exact (fl_ne7 9 (by decide) (by decide)).symm
  | 8, _, _ => exact (fl_ne8 9 (by decide) (by decide)).symm
  | 9, _, h => exact absurd rfl h
  | 10, _, _ => exact Or.inl (flR (flR (flL (flR (flL (flL (flR (flR (flR (flR (flL (fl0 (by first | exact rfl | decide +kernel) (by exact rfl)))))))))))))
  | 11, _, _ => exact Or.inl (flR (flR (flL (flR (flL (flR (flR (flR (flR (flR (flR (fl0 (by first | exact rfl | decide +kernel) (by exact rfl)))))))))))))
  | 12, _, _ => exact Or.inl (flR (flR (flL (flR (flR (flR (flL (flL (flR (flR (flL (fl0 (by first | exact rfl | decide +kernel) (by exact rfl)))))))))))))
  | 13, _, _ => exact Or.inl (flR (flR (flR (flL (flL (flL (flL (flR (flR (flR (flL (fl0 (by first | exact rfl | decide +kernel) (by exact rfl)))))))))))))
  | 14, _, _ => exact Or.inl (flR (flR (flR (flL (flL (flR (flR (flR (flL (flR (flL (fl0 (by first | exact rfl | decide +kernel) (by exact rfl)))))))))))))
  | 15, _, _ => exact Or.inl (flR (flR (flR (flL (flR (flR (flL (flL (flR (flR (flL (fl0 (by first | exact rfl | decide +kernel) (by exact rfl)))))))))))))
  | 16, _, _ => exact Or.inl (flR (flR (flR (flR (flL (flL (flR (flL (flL (flR (fl0 (by first | exact rfl | decide +kernel) (by exact rfl))))))))))))
  | 17, _, _ => exact Or.inl (flR (flR (flR (flR (flR (flL (flL (flL (flR (flL (fl0 (by first | exact rfl | decide +kernel) (by exact rfl))))))))))))
  | 18, _, _ => exact Or.inl (flR (flR (flR (flR (flR (flR (flR (flL (flR (flL (fl0 (by first | exact rfl | decide +kernel) (by exact rfl))))))))))))
  | 19, _, _ => exact Or.inr (flR (flR (flL (flL (flR (flR (flL (flR (flL (flL (fl0 (by first | exact rfl | decide +kernel) (by exact rfl))))))))))))
  | n + 20, h, _ => exact absurd h (by omega)
set_option maxRecDepth 100000 in
theorem fl_ne10 : ∀ j : Nat, j < 20 → 10 ≠ j → Cond.not (Cond.eq (tmS 10) (tmS j)) ∈ fl1 ∨ Cond.not (Cond.eq (tmS j) (tmS 10)) ∈ fl1 := fun j hj hij => by
  match j, hj, hij with
  | 0, _, _ => exact (fl_ne0 10 (by decide) (by decide)).symm
  | 1, _, _ => exact (fl_ne1 10 (by decide) (by decide)).symm
  | 2, _, _ => exact (fl_ne2 10 (by decide) (by decide)).symm
  | 3, _, _ => exact (fl_ne3 10 (by decide) (by decide)).symm
  | 4, _, _ => exact (fl_ne4 10 (by decide) (by decide)).symm
  | 5, _, _ => exact (fl_ne5 10 (by decide) (by decide)).symm
  | 6, _, _ => exact (fl_ne6 10 (by decide) (by decide)).symm
  | 7, _, _ => exact (fl_ne7 10 (by decide) (by decide)).symm
  | 8, _, _ => exact (fl_ne8 10 (by decide) (by decide)).symm
  | 9, _, _ => exact (fl_ne9 10 (by decide) (by decide)).symm
  | 10, _, h => exact absurd rfl h
  | 11, _, _ => exact Or.inl (flR (flR (flL (flR (flR (flL (flL (flL (flL (flL (fl0 (by first | exact rfl | decide +kernel) (by exact rfl))))))))))))
  | 12, _, _ => exact Or.inl (flR (flR (flL (flR (flR (flR (flL (flL (flR (flR (flR (fl0 (by first | exact rfl | decide +kernel) (by exact rfl)))))))))))))
  | 13, _, _ => exact Or.inl (flR (flR (flR (flL (flL (flL (flL (flR (flR (flR (flR (fl0 (by first | exact rfl | decide +kernel) (by exact rfl)))))))))))))
  | 14, _, _ => exact Or.inl (flR (flR (flR (flL (flL (flR (flR (flR (flL (flR (flR (fl0 (by first | exact rfl | decide +kernel) (by exact rfl)))))))))))))
  | 15, _, _ => exact Or.inl (flR (flR (flR (flL (flR (flR (flL (flL (flR (flR (flR (fl0 (by first | exact rfl | decide +kernel) (by exact rfl)))))))))))))
  | 16, _, _ => exact Or.inl (flR (flR (flR (flR (flL (flL (flR (flL (flR (flL (fl0 (by first | exact rfl | decide +kernel) (by exact rfl))))))))))))
  | 17, _, _ => exact Or.inl (flR (flR (flR (flR (flR (flL (flL (flL (flR (flR (flL (fl0 (by first | exact rfl | decide +kernel) (by exact rfl)))))))))))))
  | 18, _, _ => exact Or.inl (flR (flR (flR (flR (flR (flR (flR (flL (flR (flR (flL (fl0 (by first | exact rfl | decide +kernel) (by exact rfl)))))))))))))
  | 19, _, _ => exact Or.inr (flR (flR (flL (flR (flL (flL (flL (flR (flL (flR (fl0 (by first | exact rfl | decide +kernel) (by exact rfl))))))))))))
  | n + 20, h, _ => exact absurd h (by omega)
set_option maxRecDepth 100000 in
theorem fl_ne11 : ∀ j : Nat, j < 20 → 11 ≠ j → Cond.not (Cond.eq (tmS 11) (tmS j)) ∈ fl1 ∨ Cond.not (Cond.eq (tmS j) (tmS 11)) ∈ fl1 := fun j hj hij => by
  match j, hj, hij with
  | 0, _, _ => exact (fl_ne0 11 (by decide) (by decide)).symm
  | 1, _, _ => exact (fl_ne1 11 (by decide) (by decide)).symm
  | 2, _, _ => exact (fl_ne2 11 (by decide) (by decide)).symm
  | 3, _, _ => exact (fl_ne3 11 (by decide) (by decide)).symm
  | 4, _, _ => exact (fl_ne4 11 (by decide) (by decide)).symm
  | 5, _, _ => exact (fl_ne5 11 (by decide) (by decide)).symm
  | 6, _, _ => exact (fl_ne6 11 (by decide) (by decide)).symm
  | 7, _, _ => exact (fl_ne7 11 (by decide) (by decide)).symm
  | 8, _, _ => exact (fl_ne8 11 (by decide) (by decide)).symm
  | 9, _, _ => exact (fl_ne9 11 (by decide) (by decide)).symm
  | 10, _, _ => exact (fl_ne10 11 (by decide) (by decide)).symm
  | 11, _, h => exact absurd rfl h
  | 12, _, _ => exact Or.inl (flR (flR (flL (flR (flR (flR (flL (flR (flL (flL (fl0 (by first | exact rfl | decide +kernel) (by exact rfl))))))))))))
  | 13, _, _ => exact Or.inl (flR (flR (flR (flL (flL (flL (flR (flL (flL (flL (fl0 (by first | exact rfl | decide +kernel) (by exact rfl))))))))))))
  | 14, _, _ => exact Or.inl (flR (flR (flR (flL (flL (flR (flR (flR (flR (flL (fl0 (by first | exact rfl | decide +kernel) (by exact rfl))))))))))))
  | 15, _, _ => exact Or.inl (flR (flR (flR (flL (flR (flR (flL (flR (flL (flL (fl0 (by first | exact rfl | decide +kernel) (by exact rfl))))))))))))
  | 16, _, _ => exact Or.inl (flR (flR (flR (flR (flL (flL (flR (flL (flR (flR (flL (fl0 (by first | exact rfl | decide +kernel) (by exact rfl)))))))))))))
  | 17, _, _ => exact Or.inl (flR (flR (flR (flR (flR (flL (flL (flL (flR (flR (flR (fl0 (by first | exact rfl | decide +kernel) (by exact rfl)))))))))))))
  | 18, _, _ => exact Or.inl (flR (flR (flR (flR (flR (flR (flR (flL (flR (flR (flR (fl0 (by first | exact rfl | decide +kernel) (by exact rfl)))))))))))))
  | 19, _, _ => exact Or.inr (flR (flR (flL (flR (flL (flR (flL (flR (flR (flR (flL (fl0 (by first | exact rfl | decide +kernel) (by exact rfl)))))))))))))
  | n + 20, h, _ => exact absurd h (by omega)
set_option maxRecDepth 100000 in
theorem fl_ne12 : ∀ j : Nat, j < 20 → 12 ≠ j → Cond.not (Cond.eq (tmS 12) (tmS j)) ∈ fl1 ∨ Cond.not (Cond.eq (tmS j) (tmS 12)) ∈ fl1 := fun j hj hij => by
  match j, hj, hij with
  | 0, _, _ => exact (fl_ne0 12 (by decide) (by decide)).symm
  | 1, _, _ => exact (fl_ne1 12 (by decide) (by decide)).symm
  | 2, _, _ => exact (fl_ne2 12 (by decide) (by decide)).symm
  | 3, _, _ => exact (fl_ne3 12 (by decide) (by decide)).symm
  | 4, _, _ => exact (fl_ne4 12 (by decide) (by decide)).symm
  | 5, _, _ => exact (fl_ne5 12 (by decide) (by decide)).symm
  | 6, _, _ => exact (fl_ne6 12 (by decide) (by decide)).symm
  | 7, _, _ => exact (fl_ne7 12 (by decide) (by decide)).symm
  | 8, _, _ => exact (fl_ne8 12 (by decide) (by decide)).symm
  | 9, _, _ => exact (fl_ne9 12 (by decide) (by decide)).symm
  | 10, _, _ => exact (fl_ne10 12 (by decide) (by decide)).symm
  | 11, _, _ => exact (fl_ne11 12 (by decide) (by decide)).symm
  | 12, _, h => exact absurd rfl h
  | 13, _, _ => exact Or.inl (flR (flR (flR (flL (flL (flL (flR (flL (flL (flR (fl0 (by first | exact rfl | decide +kernel) (by exact rfl))))))))))))
  | 14, _, _ => exact Or.inl (flR (flR (flR (flL (flL (flR (flR (flR (flR (flR (flL (fl0 (by first | exact rfl | decide +kernel) (by exact rfl)))))))))))))
  | 15, _, _ => exact Or.inl (flR (flR (flR (flL (flR (flR (flL (flR (flL (flR (fl0 (by first | exact rfl | decide +kernel) (by exact rfl))))))))))))
  | 16, _, _ => exact Or.inl (flR (flR (flR (flR (flL (flL (flR (flL (flR (flR (flR (fl0 (by first | exact rfl | decide +kernel) (by exact rfl)))))))))))))
  | 17, _, _ => exact Or.inl (flR (flR (flR (flR (flR (flL (flL (flR (flL (flL (fl0 (by first | exact rfl | decide +kernel) (by exact rfl))))))))))))
  | 18, _, _ => exact Or.inl (flR (flR (flR (flR (flR (flR (flR (flR (flL (flL (fl0 (by first | exact rfl | decide +kernel) (by exact rfl))))))))))))
  | 19, _, _ => exact Or.inr (flR (flR (flL (flR (flR (flL (flR (flL (flR (flL (fl0 (by first | exact rfl | decide +kernel) (by exact rfl))))))))))))
  | n + 20, h, _ => exact absurd h (by omega)
set_option maxRecDepth 100000 in
theorem fl_ne13 : ∀ j : Nat, j < 20 → 13 ≠ j → Cond.not (Cond.eq (tmS 13) (tmS j)) ∈ fl1 ∨ Cond.not (Cond.eq (tmS j) (tmS 13)) ∈ fl1 := fun j hj hij => by
  match j, hj, hij with
  | 0, _, _ => exact (fl_ne0 13 (by decide) (by decide)).symm
  | 1, _, _ => exact (fl_ne1 13 (by decide) (by decide)).symm
  | 2, _, _ => exact (fl_ne2 13 (by decide) (by decide)).symm
  | 3, _, _ => exact (fl_ne3 13 (by decide) (by decide)).symm
  | 4, _, _ => exact (fl_ne4 13 (by decide) (by decide)).symm
  | 5, _, _ => exact (fl_ne5 13 (by decide) (by decide)).symm
  | 6, _, _ => exact (fl_ne6 13 (by decide) (by decide)).symm
  | 7, _, _ => exact (fl_ne7 13 (by decide) (by decide)).symm
  | 8, _, _ => exact (fl_ne8 13 (by decide) (by decide)).symm
  | 9, _, _ => exact (fl_ne9 13 (by decide) (by decide)).symm
  | 10, _, _ => exact (fl_ne10 13 (by decide) (by decide)).symm
  | 11, _, _ => exact (fl_ne11 13 (by decide) (by decide)).symm
  | 12, _, _ => exact (fl_ne12 13 (by decide) (by decide)).symm
  | 13, _, h => exact absurd rfl h
  | 14, _, _ => exact Or.inl (flR (flR (flR (flL (flL (flR (flR (flR (flR (flR (flR (fl0 (by first | exact rfl | decide +kernel) (by exact rfl)))))))))))))
  | 15, _, _ => exact Or.inl (flR (flR (flR (flL (flR (flR (flL (flR (flR (flL (fl0 (by first | exact rfl | decide +kernel) (by exact rfl))))))))))))
  | 16, _, _ => exact Or.inl (flR (flR (flR (flR (flL (flL (flR (flR (flL (flL (fl0 (by first | exact rfl | decide +kernel) (by exact rfl))))))))))))
  | 17, _, _ => exact Or.inl (flR (flR (flR (flR (flR (flL (flL (flR (flL (flR (fl0 (by first | exact rfl | decide +kernel) (by exact rfl))))))))))))
  | 18, _, _ => exact Or.inl (flR (flR (flR (flR (flR (flR (flR (flR (flL (flR (flL (fl0 (by first | exact rfl | decide +kernel) (by exact rfl)))))))))))))
  | 19, _, _ => exact Or.inr (flR (flR (flL (flR (flR (flR (flR (flR (flL (flR (flR (fl0 (by first | exact rfl | decide +kernel) (by exact rfl)))))))))))))
  | n + 20, h, _ => exact absurd h (by omega)
set_option maxRecDepth 100000 in
theorem fl_ne14 : ∀ j : Nat, j < 20 → 14 ≠ j → Cond.not (Cond.eq (tmS 14) (tmS j)) ∈ fl1 ∨ Cond.not (Cond.eq (tmS j) (tmS 14)) ∈ fl1 := fun j hj hij => by
  match j, hj, hij with
  | 0, _, _ => exact (fl_ne0 14 (by decide) (by decide)).symm
  | 1, _, _ => exact (fl_ne1 14 (by decide) (by decide)).symm
  | 2, _, _ => exact (fl_ne2 14 (by decide) (by decide)).symm
  | 3, _, _ => exact (fl_ne3 14 (by decide) (by decide)).symm
  | 4, _, _ => exact (fl_ne4 14 (by decide) (by decide)).symm
  | 5, _, _ => exact (fl_ne5 14 (by decide) (by decide)).symm
  | 6, _, _ => exact (fl_ne6 14 (by decide) (by decide)).symm
  | 7, _, _ => exact (fl_ne7 14 (by decide) (by decide)).symm
  | 8, _, _ => exact (fl_ne8 14 (by decide) (by decide)).symm
  | 9, _, _ => exact (fl_ne9 14 (by decide) (by decide)).symm
  | 10, _, _ => exact (fl_ne10 14 (by decide) (by decide)).symm
  | 11, _, _ => exact (fl_ne11 14 (by decide) (by decide)).symm
  | 12, _, _ => exact (fl_ne12 14 (by decide) (by decide)).symm
  | 13, _, _ => exact (fl_ne13 14 (by decide) (by decide)).symm
  | 14, _, h => exact absurd rfl h
  | 15, _, _ => exact Or.inl (flR (flR (flR (flL (flR (flR (flL (flR (flR (flR (flL (fl0 (by first | exact rfl | decide +kernel) (by exact rfl)))))))))))))
  | 16, _, _ => exact Or.inl (flR (flR (flR (flR (flL (flL (flR (flR (flL (flR (fl0 (by first | exact rfl | decide +kernel) (by exact rfl))))))))))))
  | 17, _, _ => exact Or.inl (flR (flR (flR (flR (flR (flL (flL (flR (flR (flL (fl0 (by first | exact rfl | decide +kernel) (by exact rfl))))))))))))
  | 18, _, _ => exact Or.inl (flR (flR (flR (flR (flR (flR (flR (flR (flL (flR (flR (fl0 (by first | exact rfl | decide +kernel) (by exact rfl)))))))))))))
  | 19, _, _ => exact Or.inr (flR (flR (flR (flL (flL (flR (flL (flL (flR (flR (flR (fl0 (by first | exact rfl | decide +kernel) (by exact rfl)))))))))))))
  | n + 20, h, _ => exact absurd h (by omega)
set_option maxRecDepth 100000 in
theorem fl_ne15 : ∀ j : Nat, j < 20 → 15 ≠ j → Cond.not (Cond.eq (tmS 15) (tmS j)) ∈ fl1 ∨ Cond.not (Cond.eq (tmS j) (tmS 15)) ∈ fl1 := fun j hj hij => by
  match j, hj, hij with
  | 0, _, _ => exact (fl_ne0 15 (by decide) (by decide)).symm
  | 1, _, _ => exact (fl_ne1 15 (by decide) (by decide)).symm
  | 2, _, _ => exact (fl_ne2 15 (by decide) (by decide)).symm
  | 3, _, _ => exact (fl_ne3 15 (by decide) (by decide)).symm
  | 4, _, _ => exact (fl_ne4 15 (by decide) (by decide)).symm
  | 5, _, _ => exact (fl_ne5 15 (by decide) (by decide)).symm
  | 6, _, _ => exact (fl_ne6 15 (by decide) (by decide)).symm
  | 7, _, _ => exact (fl_ne7 15 (by decide) (by decide)).symm
  | 8, _, _ => exact (fl_ne8 15 (by decide) (by decide)).symm
  | 9, _, _ => exact (fl_ne9 15 (by decide) (by decide)).symm
  | 10, _, _ => exact (fl_ne10 15 (by decide) (by decide)).symm
  | 11, _, _ => exact (fl_ne11 15 (by decide) (by decide)).symm
  | 12, _, _ => exact (fl_ne12 15 (by decide) (by decide)).symm
  | 13, _, _ => exact (fl_ne13 15 (by decide) (by decide)).symm
  | 14, _, _ => exact (fl_ne14 15 (by decide) (by decide)).symm
  | 15, _, h => exact absurd rfl h
  | 16, _, _ => exact Or.inl (flR (flR (flR (flR (flL (flL (flR (flR (flR (flL (fl0 (by first | exact rfl | decide +kernel) (by exact rfl))))))))))))
  | 17, _, _ => exact Or.inl (flR (flR (flR (flR (flR (flL (flL (flR (flR (flR (flL (fl0 (by first | exact rfl | decide +kernel) (by exact rfl)))))))))))))
  | 18, _, _ => exact Or.inl (flR (flR (flR (flR (flR (flR (flR (flR (flR (flL (fl0 (by first | exact rfl | decide +kernel) (by exact rfl))))))))))))
  | 19, _, _ => exact Or.inr (flR (flR (flR (flL (flR (flL (flR (flL (flR (flL (fl0 (by first | exact rfl | decide +kernel) (by exact rfl))))))))))))
  | n + 20, h, _ => exact absurd h (by omega)
set_option maxRecDepth 100000 in
theorem fl_ne16 : ∀ j : Nat, j < 20 → 16 ≠ j → Cond.not (Cond.eq (tmS 16) (tmS j)) ∈ fl1 ∨ Cond.not (Cond.eq (tmS j) (tmS 16)) ∈ fl1 := fun j hj hij => by
  match j, hj, hij with
  | 0, _, _ => exact (fl_ne0 16 (by decide) (by decide)).symm
  | 1, _, _ => exact (fl_ne1 16 (by decide) (by decide)).symm
  | 2, _, _ => exact (fl_ne2 16 (by decide) (by decide)).symm
  | 3, _, _ => exact (fl_ne3 16 (by decide) (by decide)).symm
  | 4, _, _ => exact (fl_ne4 16 (by decide) (by decide)).symm
  | 5, _, _ => exact (fl_ne5 16 (by decide) (by decide)).symm
  | 6, _, _ => exact (fl_ne6 16 (by decide) (by decide)).symm
  | 7, _, _ => exact (fl_ne7 16 (by decide) (by decide)).symm
  | 8, _, _ => exact (fl_ne8 16 (by decide) (by decide)).symm
  | 9, _, _ => exact (fl_ne9 16 (by decide) (by decide)).symm
  | 10, _, _ => exact (fl_ne10 16 (by decide) (by decide)).symm
  | 11, _, _ => exact (fl_ne11 16 (by decide) (by decide)).symm
  | 12, _, _ => exact (fl_ne12 16 (by decide) (by decide)).symm
  | 13, _, _ => exact (fl_ne13 16 (by decide) (by decide)).symm
  | 14, _, _ => exact (fl_ne14 16 (by decide) (by decide)).symm
  | 15, _, _ => exact (fl_ne15 16 (by decide) (by decide)).symm
  | 16, _, h => exact absurd rfl h
  | 17, _, _ => exact Or.inl (flR (flR (flR (flR (flR (flL (flL (flR (flR (flR (flR (fl0 (by first | exact rfl | decide +kernel) (by exact rfl)))))))))))))
  | 18, _, _ => exact Or.inl (flR (flR (flR (flR (flR (flR (flR (flR (flR (flR (flL (fl0 (by first | exact rfl | decide +kernel) (by exact rfl)))))))))))))
  | 19, _, _ => exact Or.inr (flR (flR (flR (flL (flR (flR (flR (flR (flR (flR (flR (fl0 (by first | exact rfl | decide +kernel) (by exact rfl)))))))))))))
  | n + 20, h, _ => exact absurd h (by omega)
set_option maxRecDepth 100000 in
theorem fl_ne17 : ∀ j : Nat, j < 20 → 17 ≠ j → Cond.not (Cond.eq (tmS 17) (tmS j)) ∈ fl1 ∨ Cond.not (Cond.eq (tmS j) (tmS 17)) ∈ fl1 := fun j hj hij => by
  match j, hj, hij with
  | 0, _, _ => exact (fl_ne0 17 (by decide) (by decide)).symm
  | 1, _, _ => exact (fl_ne1 17 (by decide) (by decide)).symm
  | 2, _, _ => exact (fl_ne2 17 (by decide) (by decide)).symm
  | 3, _, _ => exact (fl_ne3 17 (by decide) (by decide)).symm
  | 4, _, _ => exact (fl_ne4 17 (by decide) (by decide)).symm
  | 5, _, _ => exact (fl_ne5 17 (by decide) (by decide)).symm
  | 6, _, _ => exact (fl_ne6 17 (by decide) (by decide)).symm
  | 7, _, _ => exact (fl_ne7 17 (by decide) (by decide)).symm
  | 8, _, _ => exact (fl_ne8 17 (by decide) (by decide)).symm
  | 9, _, _ => exact (fl_ne9 17 (by decide) (by decide)).symm
  | 10, _, _ => exact (fl_ne10 17 (by decide) (by decide)).symm
  | 11, _, _ => exact (fl_ne11 17 (by decide) (by decide)).symm
  | 12, _, _ => exact (fl_ne12 17 (by decide) (by decide)).symm
  | 13, _, _ => exact (fl_ne13 17 (by decide) (by decide)).symm
  | 14, _, _ => exact (fl_ne14 17 (by decide) (by decide)).symm
  | 15, _, _ => exact (fl_ne15 17 (by decide) (by decide)).symm
  | 16, _, _ => exact (fl_ne16 17 (by decide) (by decide)).symm
  | 17, _, h => exact absurd rfl h
  | 18, _, _ => exact Or.inl (flR (flR (flR (flR (flR (flR (flR (flR (flR (flR (flR (fl0 (by first | exact rfl | decide +kernel) (by exact rfl)))))))))))))
  | 19, _, _ => exact Or.inr (flR (flR (flR (flR (flL (flR (flR (flL (flL (flR (fl0 (by first | exact rfl | decide +kernel) (by exact rfl))))))))))))
  | n + 20, h, _ => exact absurd h (by omega)
set_option maxRecDepth 100000 in
theorem fl_ne18 : ∀ j : Nat, j < 20 → 18 ≠ j → Cond.not (Cond.eq (tmS 18) (tmS j)) ∈ fl1 ∨ Cond.not (Cond.eq (tmS j) (tmS 18)) ∈ fl1 := fun j hj hij => by
  match j, hj, hij with
  | 0, _, _ => exact (fl_ne0 18 (by decide) (by decide)).symm
  | 1, _, _ => exact (fl_ne1 18 (by decide) (by decide)).symm
  | 2, _, _ => exact (fl_ne2 18 (by decide) (by decide)).symm
  | 3, _, _ => exact (fl_ne3 18 (by decide) (by decide)).symm
  | 4, _, _ => exact (fl_ne4 18 (by decide) (by decide)).symm
  | 5, _, _ => exact (fl_ne5 18 (by decide) (by decide)).symm
  | 6, _, _ => exact (fl_ne6 18 (by decide) (by decide)).symm
  | 7, _, _ => exact (fl_ne7 18 (by decide) (by decide)).symm
  | 8, _, _ => exact (fl_ne8 18 (by decide) (by decide)).symm
  | 9, _, _ => exact (fl_ne9 18 (by decide) (by decide)).symm
  | 10, _, _ => exact (fl_ne10 18 (by decide) (by decide)).symm
  | 11, _, _ => exact (fl_ne11 18 (by decide) (by decide)).symm
  | 12, _, _ => exact (fl_ne12 18 (by decide) (by decide)).symm
  | 13, _, _ => exact (fl_ne13 18 (by decide) (by decide)).symm
  | 14, _, _ => exact (fl_ne14 18 (by decide) (by decide)).symm
  | 15, _, _ => exact (fl_ne15 18 (by decide) (by decide)).symm
  | 16, _, _ => exact (fl_ne16 18 (by decide) (by decide)).symm
  | 17, _, _ => exact (fl_ne17 18 (by decide) (by decide)).symm
  | 18, _, h => exact absurd rfl h
  | 19, _, _ => exact Or.inr (flR (flR (flR (flR (flR (flR (flL (flL (flL (flL (fl0 (by first | exact rfl | decide +kernel) (by exact rfl))))))))))))
  | n + 20, h, _ => exact absurd h (by omega)
set_option maxRecDepth 100000 in
theorem fl_ne19 : ∀ j : Nat, j < 20 → 19 ≠ j → Cond.not (Cond.eq (tmS 19) (tmS j)) ∈ fl1 ∨ Cond.not (Cond.eq (tmS j) (tmS 19)) ∈ fl1 := fun j hj hij => by
  match j, hj, hij with
  | 0, _, _ => exact (fl_ne0 19 (by decide) (by decide)).symm
  | 1, _, _ => exact (fl_ne1 19 (by decide) (by decide)).symm
  | 2, _, _ => exact (fl_ne2 19 (by decide) (by decide)).symm
  | 3, _, _ => exact (fl_ne3 19 (by decide) (by decide)).symm
  | 4, _, _ => exact (fl_ne4 19 (by decide) (by decide)).symm
  | 5, _, _ => exact (fl_ne5 19 (by decide) (by decide)).symm
  | 6, _, _ => exact (fl_ne6 19 (by decide) (by decide)).symm
  | 7, _, _ => exact (fl_ne7 19 (by decide) (by decide)).symm
  | 8, _, _ => exact (fl_ne8 19 (by decide) (by decide)).symm
  | 9, _, _ => exact (fl_ne9 19 (by decide) (by decide)).symm
  | 10, _, _ => exact (fl_ne10 19 (by decide) (by decide)).symm
  | 11, _, _ => exact (fl_ne11 19 (by decide) (by decide)).symm
  | 12, _, _ => exact (fl_ne12 19 (by decide) (by decide)).symm
  | 13, _, _ => exact (fl_ne13 19 (by decide) (by decide)).symm
  | 14, _, _ => exact (fl_ne14 19 (by decide) (by decide)).symm
  | 15, _, _ => exact (fl_ne15 19 (by decide) (by decide)).symm
  | 16, _, _ => exact (fl_ne16 19 (by decide) (by decide)).symm
  | 17, _, _ => exact (fl_ne17 19 (by decide) (by decide)).symm
  | 18, _, _ => exact (fl_ne18 19 (by decide) (by decide)).symm
  | 19, _, h => exact absurd rfl h
  | n + 20, h, _ => exact absurd h (by omega)
theorem fl_ne : ∀ i : Nat, i < 20 → ∀ j : Nat, j < 20 → i ≠ j → Cond.not (Cond.eq (tmS i) (tmS j)) ∈ fl1 ∨ Cond.not (Cond.eq (tmS j) (tmS i)) ∈ fl1 := fun i hi => by
  match i, hi with
  | 0, _ => exact fl_ne0
  | 1, _ => exact fl_ne1
  | 2, _ => exact fl_ne2
  | 3, _ => exact fl_ne3
  | 4, _ => exact fl_ne4
  | 5, _ => exact fl_ne5
  | 6, _ => exact fl_ne6
  | 7, _ => exact fl_ne7
  | 8, _ => exact fl_ne8
  | 9, _ => exact fl_ne9
  | 10, _ => exact fl_ne10
  | 11, _ => exact fl_ne11
  | 12, _ => exact fl_ne12
  | 13, _ => exact fl_ne13
  | 14, _ => exact fl_ne14
  | 15, _ => exact fl_ne15
  | 16, _ => exact fl_ne16
  | 17, _ => exact fl_ne17
  | 18, _ => exact fl_ne18
  | 19, _ => exact fl_ne19
  | n + 20, h => exact absurd h (by omega)
