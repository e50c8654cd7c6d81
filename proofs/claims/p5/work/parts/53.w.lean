noncomputable def tmS (i : Nat) : Term := .string (rowS.getD i ("", 0, "")).1 (rowS.getD i ("", 0, "")).2.1
noncomputable abbrev fl1 : List Cond := flatC (Jvm.Cond.and given_1 narrow_1)
set_option maxRecDepth 100000 in
theorem fl_ex : ∀ i : Nat, i < 20 → Cond.exactly (tmS i) "java/lang/String" ∈ fl1 := fun i hi => by
  match i, hi with
  | 0, _ => exact List.mem_of_getElem? (i := 227) (by decide +kernel)
  | 1, _ => exact List.mem_of_getElem? (i := 240) (by decide +kernel)
  | 2, _ => exact List.mem_of_getElem? (i := 254) (by decide +kernel)
  | 3, _ => exact List.mem_of_getElem? (i := 270) (by decide +kernel)
  | 4, _ => exact List.mem_of_getElem? (i := 287) (by decide +kernel)
  | 5, _ => exact List.mem_of_getElem? (i := 305) (by decide +kernel)
  | 6, _ => exact List.mem_of_getElem? (i := 324) (by decide +kernel)
  | 7, _ => exact List.mem_of_getElem? (i := 344) (by decide +kernel)
  | 8, _ => exact List.mem_of_getElem? (i := 366) (by decide +kernel)
  | 9, _ => exact List.mem_of_getElem? (i := 389) (by decide +kernel)
  | 10, _ => exact List.mem_of_getElem? (i := 410) (by decide +kernel)
  | 11, _ => exact List.mem_of_getElem? (i := 433) (by decide +kernel)
  | 12, _ => exact List.mem_of_getElem? (i := 456) (by decide +kernel)
  | 13, _ => exact List.mem_of_getElem? (i := 482) (by decide +kernel)
  | 14, _ => exact List.mem_of_getElem? (i := 509) (by decide +kernel)
  | 15, _ => exact List.mem_of_getElem? (i := 538) (by decide +kernel)
  | 16, _ => exact List.mem_of_getElem? (i := 568) (by decide +kernel)
  | 17, _ => exact List.mem_of_getElem? (i := 598) (by decide +kernel)
  | 18, _ => exact List.mem_of_getElem? (i := 631) (by decide +kernel)
  | 19, _ => exact List.mem_of_getElem? (i := 86) (by decide +kernel)
  | n + 20, h => exact absurd h (by omega)
set_option maxRecDepth 100000 in
theorem fl_co : ∀ i : Nat, i < 20 → Cond.eq (.field (tmS i) "java/lang/String" "coder" "B") (.int 0) ∈ fl1 := fun i hi => by
  match i, hi with
  | 0, _ => exact List.mem_of_getElem? (i := 228) (by decide +kernel)
  | 1, _ => exact List.mem_of_getElem? (i := 241) (by decide +kernel)
  | 2, _ => exact List.mem_of_getElem? (i := 255) (by decide +kernel)
  | 3, _ => exact List.mem_of_getElem? (i := 271) (by decide +kernel)
  | 4, _ => exact List.mem_of_getElem? (i := 288) (by decide +kernel)
  | 5, _ => exact List.mem_of_getElem? (i := 306) (by decide +kernel)
  | 6, _ => exact List.mem_of_getElem? (i := 325) (by decide +kernel)
  | 7, _ => exact List.mem_of_getElem? (i := 345) (by decide +kernel)
  | 8, _ => exact List.mem_of_getElem? (i := 367) (by decide +kernel)
  | 9, _ => exact List.mem_of_getElem? (i := 390) (by decide +kernel)
  | 10, _ => exact List.mem_of_getElem? (i := 411) (by decide +kernel)
  | 11, _ => exact List.mem_of_getElem? (i := 434) (by decide +kernel)
  | 12, _ => exact List.mem_of_getElem? (i := 457) (by decide +kernel)
  | 13, _ => exact List.mem_of_getElem? (i := 483) (by decide +kernel)
  | 14, _ => exact List.mem_of_getElem? (i := 510) (by decide +kernel)
  | 15, _ => exact List.mem_of_getElem? (i := 539) (by decide +kernel)
  | 16, _ => exact List.mem_of_getElem? (i := 569) (by decide +kernel)
  | 17, _ => exact List.mem_of_getElem? (i := 599) (by decide +kernel)
  | 18, _ => exact List.mem_of_getElem? (i := 632) (by decide +kernel)
  | 19, _ => exact List.mem_of_getElem? (i := 87) (by decide +kernel)
  | n + 20, h => exact absurd h (by omega)
set_option maxRecDepth 100000 in
theorem fl_ar : ∀ i : Nat, i < 20 → Cond.arrayOf (.field (tmS i) "java/lang/String" "value" "[B") .byte ∈ fl1 := fun i hi => by
  match i, hi with
  | 0, _ => exact List.mem_of_getElem? (i := 229) (by decide +kernel)
  | 1, _ => exact List.mem_of_getElem? (i := 242) (by decide +kernel)
  | 2, _ => exact List.mem_of_getElem? (i := 256) (by decide +kernel)
  | 3, _ => exact List.mem_of_getElem? (i := 272) (by decide +kernel)
  | 4, _ => exact List.mem_of_getElem? (i := 289) (by decide +kernel)
  | 5, _ => exact List.mem_of_getElem? (i := 307) (by decide +kernel)
  | 6, _ => exact List.mem_of_getElem? (i := 326) (by decide +kernel)
  | 7, _ => exact List.mem_of_getElem? (i := 346) (by decide +kernel)
  | 8, _ => exact List.mem_of_getElem? (i := 368) (by decide +kernel)
  | 9, _ => exact List.mem_of_getElem? (i := 391) (by decide +kernel)
  | 10, _ => exact List.mem_of_getElem? (i := 412) (by decide +kernel)
  | 11, _ => exact List.mem_of_getElem? (i := 435) (by decide +kernel)
  | 12, _ => exact List.mem_of_getElem? (i := 458) (by decide +kernel)
  | 13, _ => exact List.mem_of_getElem? (i := 484) (by decide +kernel)
  | 14, _ => exact List.mem_of_getElem? (i := 511) (by decide +kernel)
  | 15, _ => exact List.mem_of_getElem? (i := 540) (by decide +kernel)
  | 16, _ => exact List.mem_of_getElem? (i := 570) (by decide +kernel)
  | 17, _ => exact List.mem_of_getElem? (i := 600) (by decide +kernel)
  | 18, _ => exact List.mem_of_getElem? (i := 633) (by decide +kernel)
  | 19, _ => exact List.mem_of_getElem? (i := 88) (by decide +kernel)
  | n + 20, h => exact absurd h (by omega)
set_option maxRecDepth 100000 in
theorem fl_le : ∀ i : Nat, i < 20 → Cond.eq (.length (.field (tmS i) "java/lang/String" "value" "[B")) (.int (Int32.ofNat (lenS.getD i 0))) ∈ fl1 := fun i hi => by
  match i, hi with
  | 0, _ => exact List.mem_of_getElem? (i := 230) (by decide +kernel)
  | 1, _ => exact List.mem_of_getElem? (i := 243) (by decide +kernel)
  | 2, _ => exact List.mem_of_getElem? (i := 257) (by decide +kernel)
  | 3, _ => exact List.mem_of_getElem? (i := 273) (by decide +kernel)
  | 4, _ => exact List.mem_of_getElem? (i := 290) (by decide +kernel)
  | 5, _ => exact List.mem_of_getElem? (i := 308) (by decide +kernel)
  | 6, _ => exact List.mem_of_getElem? (i := 327) (by decide +kernel)
  | 7, _ => exact List.mem_of_getElem? (i := 347) (by decide +kernel)
  | 8, _ => exact List.mem_of_getElem? (i := 369) (by decide +kernel)
  | 9, _ => exact List.mem_of_getElem? (i := 392) (by decide +kernel)
  | 10, _ => exact List.mem_of_getElem? (i := 413) (by decide +kernel)
  | 11, _ => exact List.mem_of_getElem? (i := 436) (by decide +kernel)
  | 12, _ => exact List.mem_of_getElem? (i := 459) (by decide +kernel)
  | 13, _ => exact List.mem_of_getElem? (i := 485) (by decide +kernel)
  | 14, _ => exact List.mem_of_getElem? (i := 512) (by decide +kernel)
  | 15, _ => exact List.mem_of_getElem? (i := 541) (by decide +kernel)
  | 16, _ => exact List.mem_of_getElem? (i := 571) (by decide +kernel)
  | 17, _ => exact List.mem_of_getElem? (i := 601) (by decide +kernel)
  | 18, _ => exact List.mem_of_getElem? (i := 634) (by decide +kernel)
  | 19, _ => exact List.mem_of_getElem? (i := 89) (by decide +kernel)
  | n + 20, h => exact absurd h (by omega)
set_option maxRecDepth 100000 in
theorem fl_el0 : ∀ j : Nat, j < 3 → Cond.eq (.elem (.field (tmS 0) "java/lang/String" "value" "[B") (.int (Int32.ofNat j))) (.int ((bytS.getD 0 []).getD j 0)) ∈ fl1 := fun j hj => by
  match j, hj with
  | 0, _ => exact List.mem_of_getElem? (i := 231) (by decide +kernel)
  | 1, _ => exact List.mem_of_getElem? (i := 232) (by decide +kernel)
  | 2, _ => exact List.mem_of_getElem? (i := 233) (by decide +kernel)
  | n + 3, h => exact absurd h (by omega)
set_option maxRecDepth 100000 in
theorem fl_el1 : ∀ j : Nat, j < 3 → Cond.eq (.elem (.field (tmS 1) "java/lang/String" "value" "[B") (.int (Int32.ofNat j))) (.int ((bytS.getD 1 []).getD j 0)) ∈ fl1 := fun j hj => by
  match j, hj with
  | 0, _ => exact List.mem_of_getElem? (i := 244) (by decide +kernel)
  | 1, _ => exact List.mem_of_getElem? (i := 245) (by decide +kernel)
  | 2, _ => exact List.mem_of_getElem? (i := 246) (by decide +kernel)
  | n + 3, h => exact absurd h (by omega)
set_option maxRecDepth 100000 in
theorem fl_el2 : ∀ j : Nat, j < 4 → Cond.eq (.elem (.field (tmS 2) "java/lang/String" "value" "[B") (.int (Int32.ofNat j))) (.int ((bytS.getD 2 []).getD j 0)) ∈ fl1 := fun j hj => by
  match j, hj with
  | 0, _ => exact List.mem_of_getElem? (i := 258) (by decide +kernel)
  | 1, _ => exact List.mem_of_getElem? (i := 259) (by decide +kernel)
  | 2, _ => exact List.mem_of_getElem? (i := 260) (by decide +kernel)
  | 3, _ => exact List.mem_of_getElem? (i := 261) (by decide +kernel)
  | n + 4, h => exact absurd h (by omega)
set_option maxRecDepth 100000 in
theorem fl_el3 : ∀ j : Nat, j < 4 → Cond.eq (.elem (.field (tmS 3) "java/lang/String" "value" "[B") (.int (Int32.ofNat j))) (.int ((bytS.getD 3 []).getD j 0)) ∈ fl1 := fun j hj => by
  match j, hj with
  | 0, _ => exact List.mem_of_getElem? (i := 274) (by decide +kernel)
  | 1, _ => exact List.mem_of_getElem? (i := 275) (by decide +kernel)
  | 2, _ => exact List.mem_of_getElem? (i := 276) (by decide +kernel)
  | 3, _ => exact List.mem_of_getElem? (i := 277) (by decide +kernel)
  | n + 4, h => exact absurd h (by omega)
set_option maxRecDepth 100000 in
theorem fl_el4 : ∀ j : Nat, j < 4 → Cond.eq (.elem (.field (tmS 4) "java/lang/String" "value" "[B") (.int (Int32.ofNat j))) (.int ((bytS.getD 4 []).getD j 0)) ∈ fl1 := fun j hj => by
  match j, hj with
  | 0, _ => exact List.mem_of_getElem? (i := 291) (by decide +kernel)
  | 1, _ => exact List.mem_of_getElem? (i := 292) (by decide +kernel)
  | 2, _ => exact List.mem_of_getElem? (i := 293) (by decide +kernel)
  | 3, _ => exact List.mem_of_getElem? (i := 294) (by decide +kernel)
  | n + 4, h => exact absurd h (by omega)
set_option maxRecDepth 100000 in
theorem fl_el5 : ∀ j : Nat, j < 4 → Cond.eq (.elem (.field (tmS 5) "java/lang/String" "value" "[B") (.int (Int32.ofNat j))) (.int ((bytS.getD 5 []).getD j 0)) ∈ fl1 := fun j hj => by
  match j, hj with
  | 0, _ => exact List.mem_of_getElem? (i := 309) (by decide +kernel)
  | 1, _ => exact List.mem_of_getElem? (i := 310) (by decide +kernel)
  | 2, _ => exact List.mem_of_getElem? (i := 311) (by decide +kernel)
  | 3, _ => exact List.mem_of_getElem? (i := 312) (by decide +kernel)
  | n + 4, h => exact absurd h (by omega)
set_option maxRecDepth 100000 in
theorem fl_el6 : ∀ j : Nat, j < 4 → Cond.eq (.elem (.field (tmS 6) "java/lang/String" "value" "[B") (.int (Int32.ofNat j))) (.int ((bytS.getD 6 []).getD j 0)) ∈ fl1 := fun j hj => by
  match j, hj with
  | 0, _ => exact List.mem_of_getElem? (i := 328) (by decide +kernel)
  | 1, _ => exact List.mem_of_getElem? (i := 329) (by decide +kernel)
  | 2, _ => exact List.mem_of_getElem? (i := 330) (by decide +kernel)
  | 3, _ => exact List.mem_of_getElem? (i := 331) (by decide +kernel)
  | n + 4, h => exact absurd h (by omega)
set_option maxRecDepth 100000 in
theorem fl_el7 : ∀ j : Nat, j < 5 → Cond.eq (.elem (.field (tmS 7) "java/lang/String" "value" "[B") (.int (Int32.ofNat j))) (.int ((bytS.getD 7 []).getD j 0)) ∈ fl1 := fun j hj => by
  match j, hj with
  | 0, _ => exact List.mem_of_getElem? (i := 348) (by decide +kernel)
  | 1, _ => exact List.mem_of_getElem? (i := 349) (by decide +kernel)
  | 2, _ => exact List.mem_of_getElem? (i := 350) (by decide +kernel)
  | 3, _ => exact List.mem_of_getElem? (i := 351) (by decide +kernel)
  | 4, _ => exact List.mem_of_getElem? (i := 352) (by decide +kernel)
  | n + 5, h => exact absurd h (by omega)
set_option maxRecDepth 100000 in
theorem fl_el8 : ∀ j : Nat, j < 5 → Cond.eq (.elem (.field (tmS 8) "java/lang/String" "value" "[B") (.int (Int32.ofNat j))) (.int ((bytS.getD 8 []).getD j 0)) ∈ fl1 := fun j hj => by
  match j, hj with
  | 0, _ => exact List.mem_of_getElem? (i := 370) (by decide +kernel)
  | 1, _ => exact List.mem_of_getElem? (i := 371) (by decide +kernel)
  | 2, _ => exact List.mem_of_getElem? (i := 372) (by decide +kernel)
  | 3, _ => exact List.mem_of_getElem? (i := 373) (by decide +kernel)
  | 4, _ => exact List.mem_of_getElem? (i := 374) (by decide +kernel)
  | n + 5, h => exact absurd h (by omega)
set_option maxRecDepth 100000 in
theorem fl_el9 : ∀ j : Nat, j < 2 → Cond.eq (.elem (.field (tmS 9) "java/lang/String" "value" "[B") (.int (Int32.ofNat j))) (.int ((bytS.getD 9 []).getD j 0)) ∈ fl1 := fun j hj => by
  match j, hj with
  | 0, _ => exact List.mem_of_getElem? (i := 393) (by decide +kernel)
  | 1, _ => exact List.mem_of_getElem? (i := 394) (by decide +kernel)
  | n + 2, h => exact absurd h (by omega)
set_option maxRecDepth 100000 in
theorem fl_el10 : ∀ j : Nat, j < 3 → Cond.eq (.elem (.field (tmS 10) "java/lang/String" "value" "[B") (.int (Int32.ofNat j))) (.int ((bytS.getD 10 []).getD j 0)) ∈ fl1 := fun j hj => by
  match j, hj with
  | 0, _ => exact List.mem_of_getElem? (i := 414) (by decide +kernel)
  | 1, _ => exact List.mem_of_getElem? (i := 415) (by decide +kernel)
  | 2, _ => exact List.mem_of_getElem? (i := 416) (by decide +kernel)
  | n + 3, h => exact absurd h (by omega)
set_option maxRecDepth 100000 in
theorem fl_el11 : ∀ j : Nat, j < 2 → Cond.eq (.elem (.field (tmS 11) "java/lang/String" "value" "[B") (.int (Int32.ofNat j))) (.int ((bytS.getD 11 []).getD j 0)) ∈ fl1 := fun j hj => by
  match j, hj with
  | 0, _ => exact List.mem_of_getElem? (i := 437) (by decide +kernel)
  | 1, _ => exact List.mem_of_getElem? (i := 438) (by decide +kernel)
  | n + 2, h => exact absurd h (by omega)
set_option maxRecDepth 100000 in
theorem fl_el12 : ∀ j : Nat, j < 4 → Cond.eq (.elem (.field (tmS 12) "java/lang/String" "value" "[B") (.int (Int32.ofNat j))) (.int ((bytS.getD 12 []).getD j 0)) ∈ fl1 := fun j hj => by
  match j, hj with
  | 0, _ => exact List.mem_of_getElem? (i := 460) (by decide +kernel)
  | 1, _ => exact List.mem_of_getElem? (i := 461) (by decide +kernel)
  | 2, _ => exact List.mem_of_getElem? (i := 462) (by decide +kernel)
  | 3, _ => exact List.mem_of_getElem? (i := 463) (by decide +kernel)
  | n + 4, h => exact absurd h (by omega)
set_option maxRecDepth 100000 in
theorem fl_el13 : ∀ j : Nat, j < 4 → Cond.eq (.elem (.field (tmS 13) "java/lang/String" "value" "[B") (.int (Int32.ofNat j))) (.int ((bytS.getD 13 []).getD j 0)) ∈ fl1 := fun j hj => by
  match j, hj with
  | 0, _ => exact List.mem_of_getElem? (i := 486) (by decide +kernel)
  | 1, _ => exact List.mem_of_getElem? (i := 487) (by decide +kernel)
  | 2, _ => exact List.mem_of_getElem? (i := 488) (by decide +kernel)
  | 3, _ => exact List.mem_of_getElem? (i := 489) (by decide +kernel)
  | n + 4, h => exact absurd h (by omega)
set_option maxRecDepth 100000 in
theorem fl_el14 : ∀ j : Nat, j < 5 → Cond.eq (.elem (.field (tmS 14) "java/lang/String" "value" "[B") (.int (Int32.ofNat j))) (.int ((bytS.getD 14 []).getD j 0)) ∈ fl1 := fun j hj => by
  match j, hj with
  | 0, _ => exact List.mem_of_getElem? (i := 513) (by decide +kernel)
  | 1, _ => exact List.mem_of_getElem? (i := 514) (by decide +kernel)
  | 2, _ => exact List.mem_of_getElem? (i := 515) (by decide +kernel)
  | 3, _ => exact List.mem_of_getElem? (i := 516) (by decide +kernel)
  | 4, _ => exact List.mem_of_getElem? (i := 517) (by decide +kernel)
  | n + 5, h => exact absurd h (by omega)
set_option maxRecDepth 100000 in
theorem fl_el15 : ∀ j : Nat, j < 5 → Cond.eq (.elem (.field (tmS 15) "java/lang/String" "value" "[B") (.int (Int32.ofNat j))) (.int ((bytS.getD 15 []).getD j 0)) ∈ fl1 := fun j hj => by
  match j, hj with
  | 0, _ => exact List.mem_of_getElem? (i := 542) (by decide +kernel)
  | 1, _ => exact List.mem_of_getElem? (i := 543) (by decide +kernel)
  | 2, _ => exact List.mem_of_getElem? (i := 544) (by decide +kernel)
  | 3, _ => exact List.mem_of_getElem? (i := 545) (by decide +kernel)
  | 4, _ => exact List.mem_of_getElem? (i := 546) (by decide +kernel)
  | n + 5, h => exact absurd h (by omega)
set_option maxRecDepth 100000 in
theorem fl_el16 : ∀ j : Nat, j < 4 → Cond.eq (.elem (.field (tmS 16) "java/lang/String" "value" "[B") (.int (Int32.ofNat j))) (.int ((bytS.getD 16 []).getD j 0)) ∈ fl1 := fun j hj => by
  match j, hj with
  | 0, _ => exact List.mem_of_getElem? (i := 572) (by decide +kernel)
  | 1, _ => exact List.mem_of_getElem? (i := 573) (by decide +kernel)
  | 2, _ => exact List.mem_of_getElem? (i := 574) (by decide +kernel)
  | 3, _ => exact List.mem_of_getElem? (i := 575) (by decide +kernel)
  | n + 4, h => exact absurd h (by omega)
set_option maxRecDepth 100000 in
theorem fl_el17 : ∀ j : Nat, j < 6 → Cond.eq (.elem (.field (tmS 17) "java/lang/String" "value" "[B") (.int (Int32.ofNat j))) (.int ((bytS.getD 17 []).getD j 0)) ∈ fl1 := fun j hj => by
  match j, hj with
  | 0, _ => exact List.mem_of_getElem? (i := 602) (by decide +kernel)
  | 1, _ => exact List.mem_of_getElem? (i := 603) (by decide +kernel)
  | 2, _ => exact List.mem_of_getElem? (i := 604) (by decide +kernel)
  | 3, _ => exact List.mem_of_getElem? (i := 605) (by decide +kernel)
  | 4, _ => exact List.mem_of_getElem? (i := 606) (by decide +kernel)
  | 5, _ => exact List.mem_of_getElem? (i := 607) (by decide +kernel)
  | n + 6, h => exact absurd h (by omega)
set_option maxRecDepth 100000 in
theorem fl_el18 : ∀ j : Nat, j < 4 → Cond.eq (.elem (.field (tmS 18) "java/lang/String" "value" "[B") (.int (Int32.ofNat j))) (.int ((bytS.getD 18 []).getD j 0)) ∈ fl1 := fun j hj => by
  match j, hj with
  | 0, _ => exact List.mem_of_getElem? (i := 635) (by decide +kernel)
  | 1, _ => exact List.mem_of_getElem? (i := 636) (by decide +kernel)
  | 2, _ => exact List.mem_of_getElem? (i := 637) (by decide +kernel)
  | 3, _ => exact List.mem_of_getElem? (i := 638) (by decide +kernel)
  | n + 4, h => exact absurd h (by omega)
set_option maxRecDepth 100000 in
theorem fl_el19 : ∀ j : Nat, j < 94 → Cond.eq (.elem (.field (tmS 19) "java/lang/String" "value" "[B") (.int (Int32.ofNat j))) (.int ((bytS.getD 19 []).getD j 0)) ∈ fl1 := fun j hj => by
  match j, hj with
  | 0, _ => exact List.mem_of_getElem? (i := 90) (by decide +kernel)
  | 1, _ => exact List.mem_of_getElem? (i := 91) (by decide +kernel)
  | 2, _ => exact List.mem_of_getElem? (i := 92) (by decide +kernel)
  | 3, _ => exact List.mem_of_getElem? (i := 93) (by decide +kernel)
  | 4, _ => exact List.mem_of_getElem? (i := 94) (by decide +kernel)
  | 5, _ => exact List.mem_of_getElem? (i := 95) (by decide +kernel)
  | 6, _ => exact List.mem_of_getElem? (i := 96) (by decide +kernel)
  | 7, _ => exact List.mem_of_getElem? (i := 97) (by decide +kernel)
  | 8, _ => exact List.mem_of_getElem? (i := 98) (by decide +kernel)
  | 9, _ => exact List.mem_of_getElem? (i := 99) (by decide +kernel)
  | 10, _ => exact List.mem_of_getElem? (i := 100) (by decide +kernel)
  | 11, _ => exact List.mem_of_getElem? (i := 101) (by decide +kernel)
  | 12, _ => exact List.mem_of_getElem? (i := 102) (by decide +kernel)
  | 13, _ => exact List.mem_of_getElem? (i := 103) (by decide +kernel)
  | 14, _ => exact List.mem_of_getElem? (i := 104) (by decide +kernel)
  | 15, _ => exact List.mem_of_getElem? (i := 105) (by decide +kernel)
  | 16, _ => exact List.mem_of_getElem? (i := 106) (by decide +kernel)
  | 17, _ => exact List.mem_of_getElem? (i := 107) (by decide +kernel)
  | 18, _ => exact List.mem_of_getElem? (i := 108) (by decide +kernel)
  | 19, _ => exact List.mem_of_getElem? (i := 109) (by decide +kernel)
  | 20, _ => exact List.mem_of_getElem? (i := 110) (by decide +kernel)
  | 21, _ => exact List.mem_of_getElem? (i := 111) (by decide +kernel)
  | 22, _ => exact List.mem_of_getElem? (i := 112) (by decide +kernel)
  | 23, _ => exact List.mem_of_getElem? (i := 113) (by decide +kernel)
  | 24, _ => exact List.mem_of_getElem? (i := 114) (by decide +kernel)
  | 25, _ => exact List.mem_of_getElem? (i := 115) (by decide +kernel)
  | 26, _ => exact List.mem_of_getElem? (i := 116) (by decide +kernel)
  | 27, _ => exact List.mem_of_getElem? (i := 117) (by decide +kernel)
  | 28, _ => exact List.mem_of_getElem? (i := 118) (by decide +kernel)
  | 29, _ => exact List.mem_of_getElem? (i := 119) (by decide +kernel)
  | 30, _ => exact List.mem_of_getElem? (i := 120) (by decide +kernel)
  | 31, _ => exact List.mem_of_getElem? (i := 121) (by decide +kernel)
  | 32, _ => exact List.mem_of_getElem? (i := 122) (by decide +kernel)
  | 33, _ => exact List.mem_of_getElem? (i := 123) (by decide +kernel)
  | 34, _ => exact List.mem_of_getElem? (i := 124) (by decide +kernel)
  | 35, _ => exact List.mem_of_getElem? (i := 125) (by decide +kernel)
  | 36, _ => exact List.mem_of_getElem? (i := 126) (by decide +kernel)
  | 37, _ => exact List.mem_of_getElem? (i := 127) (by decide +kernel)
  | 38, _ => exact List.mem_of_getElem? (i := 128) (by decide +kernel)
  | 39, _ => exact List.mem_of_getElem? (i := 129) (by decide +kernel)
  | 40, _ => exact List.mem_of_getElem? (i := 130) (by decide +kernel)
  | 41, _ => exact List.mem_of_getElem? (i := 131) (by decide +kernel)
  | 42, _ => exact List.mem_of_getElem? (i := 132) (by decide +kernel)
  | 43, _ => exact List.mem_of_getElem? (i := 133) (by decide +kernel)
  | 44, _ => exact List.mem_of_getElem? (i := 134) (by decide +kernel)
  | 45, _ => exact List.mem_of_getElem? (i := 135) (by decide +kernel)
  | 46, _ => exact List.mem_of_getElem? (i := 136) (by decide +kernel)
  | 47, _ => exact List.mem_of_getElem? (i := 137) (by decide +kernel)
  | 48, _ => exact List.mem_of_getElem? (i := 138) (by decide +kernel)
  | 49, _ => exact List.mem_of_getElem? (i := 139) (by decide +kernel)
  | 50, _ => exact List.mem_of_getElem? (i := 140) (by decide +kernel)
  | 51, _ => exact List.mem_of_getElem? (i := 141) (by decide +kernel)
  | 52, _ => exact List.mem_of_getElem? (i := 142) (by decide +kernel)
  | 53, _ => exact List.mem_of_getElem? (i := 143) (by decide +kernel)
  | 54, _ => exact List.mem_of_getElem? (i := 144) (by decide +kernel)
  | 55, _ => exact List.mem_of_getElem? (i := 145) (by decide +kernel)
  | 56, _ => exact List.mem_of_getElem? (i := 146) (by decide +kernel)
  | 57, _ => exact List.mem_of_getElem? (i := 147) (by decide +kernel)
  | 58, _ => exact List.mem_of_getElem? (i := 148) (by decide +kernel)
  | 59, _ => exact List.mem_of_getElem? (i := 149) (by decide +kernel)
  | 60, _ => exact List.mem_of_getElem? (i := 150) (by decide +kernel)
  | 61, _ => exact List.mem_of_getElem? (i := 151) (by decide +kernel)
  | 62, _ => exact List.mem_of_getElem? (i := 152) (by decide +kernel)
  | 63, _ => exact List.mem_of_getElem? (i := 153) (by decide +kernel)
  | 64, _ => exact List.mem_of_getElem? (i := 154) (by decide +kernel)
  | 65, _ => exact List.mem_of_getElem? (i := 155) (by decide +kernel)
  | 66, _ => exact List.mem_of_getElem? (i := 156) (by decide +kernel)
  | 67, _ => exact List.mem_of_getElem? (i := 157) (by decide +kernel)
  | 68, _ => exact List.mem_of_getElem? (i := 158) (by decide +kernel)
  | 69, _ => exact List.mem_of_getElem? (i := 159) (by decide +kernel)
  | 70, _ => exact List.mem_of_getElem? (i := 160) (by decide +kernel)
  | 71, _ => exact List.mem_of_getElem? (i := 161) (by decide +kernel)
  | 72, _ => exact List.mem_of_getElem? (i := 162) (by decide +kernel)
  | 73, _ => exact List.mem_of_getElem? (i := 163) (by decide +kernel)
  | 74, _ => exact List.mem_of_getElem? (i := 164) (by decide +kernel)
  | 75, _ => exact List.mem_of_getElem? (i := 165) (by decide +kernel)
  | 76, _ => exact List.mem_of_getElem? (i := 166) (by decide +kernel)
  | 77, _ => exact List.mem_of_getElem? (i := 167) (by decide +kernel)
  | 78, _ => exact List.mem_of_getElem? (i := 168) (by decide +kernel)
  | 79, _ => exact List.mem_of_getElem? (i := 169) (by decide +kernel)
  | 80, _ => exact List.mem_of_getElem? (i := 170) (by decide +kernel)
  | 81, _ => exact List.mem_of_getElem? (i := 171) (by decide +kernel)
  | 82, _ => exact List.mem_of_getElem? (i := 172) (by decide +kernel)
  | 83, _ => exact List.mem_of_getElem? (i := 173) (by decide +kernel)
  | 84, _ => exact List.mem_of_getElem? (i := 174) (by decide +kernel)
  | 85, _ => exact List.mem_of_getElem? (i := 175) (by decide +kernel)
  | 86, _ => exact List.mem_of_getElem? (i := 176) (by decide +kernel)
  | 87, _ => exact List.mem_of_getElem? (i := 177) (by decide +kernel)
  | 88, _ => exact List.mem_of_getElem? (i := 178) (by decide +kernel)
  | 89, _ => exact List.mem_of_getElem? (i := 179) (by decide +kernel)
  | 90, _ => exact List.mem_of_getElem? (i := 180) (by decide +kernel)
  | 91, _ => exact List.mem_of_getElem? (i := 181) (by decide +kernel)
  | 92, _ => exact List.mem_of_getElem? (i := 182) (by decide +kernel)
  | 93, _ => exact List.mem_of_getElem? (i := 183) (by decide +kernel)
  | n + 94, h => exact absurd h (by omega)
theorem fl_el : ∀ i : Nat, i < 20 → ∀ j : Nat, j < lenS.getD i 0 → Cond.eq (.elem (.field (tmS i) "java/lang/String" "value" "[B") (.int (Int32.ofNat j))) (.int ((bytS.getD i []).getD j 0)) ∈ fl1 := fun i hi => by
  match i, hi with
  | 0, _ => exact fl_el0
  | 1, _ => exact fl_el1
  | 2, _ => exact fl_el2
  | 3, _ => exact fl_el3
  | 4, _ => exact fl_el4
  | 5, _ => exact fl_el5
  | 6, _ => exact fl_el6
  | 7, _ => exact fl_el7
  | 8, _ => exact fl_el8
  | 9, _ => exact fl_el9
  | 10, _ => exact fl_el10
  | 11, _ => exact fl_el11
  | 12, _ => exact fl_el12
  | 13, _ => exact fl_el13
  | 14, _ => exact fl_el14
  | 15, _ => exact fl_el15
  | 16, _ => exact fl_el16
  | 17, _ => exact fl_el17
  | 18, _ => exact fl_el18
  | 19, _ => exact fl_el19
  | n + 20, h => exact absurd h (by omega)
set_option maxRecDepth 100000 in
theorem fl_ne0 : ∀ j : Nat, j < 20 → 0 ≠ j → Cond.not (Cond.eq (tmS 0) (tmS j)) ∈ fl1 ∨ Cond.not (Cond.eq (tmS j) (tmS 0)) ∈ fl1 := fun j hj hij => by
  match j, hj, hij with
  | 0, _, h => exact absurd rfl h
  | 1, _, _ => exact Or.inl (List.mem_of_getElem? (i := 253) (by decide +kernel))
  | 2, _, _ => exact Or.inl (List.mem_of_getElem? (i := 268) (by decide +kernel))
  | 3, _, _ => exact Or.inl (List.mem_of_getElem? (i := 284) (by decide +kernel))
  | 4, _, _ => exact Or.inl (List.mem_of_getElem? (i := 301) (by decide +kernel))
  | 5, _, _ => exact Or.inl (List.mem_of_getElem? (i := 319) (by decide +kernel))
  | 6, _, _ => exact Or.inl (List.mem_of_getElem? (i := 338) (by decide +kernel))
  | 7, _, _ => exact Or.inl (List.mem_of_getElem? (i := 359) (by decide +kernel))
  | 8, _, _ => exact Or.inl (List.mem_of_getElem? (i := 381) (by decide +kernel))
  | 9, _, _ => exact Or.inl (List.mem_of_getElem? (i := 401) (by decide +kernel))
  | 10, _, _ => exact Or.inl (List.mem_of_getElem? (i := 423) (by decide +kernel))
  | 11, _, _ => exact Or.inl (List.mem_of_getElem? (i := 445) (by decide +kernel))
  | 12, _, _ => exact Or.inl (List.mem_of_getElem? (i := 470) (by decide +kernel))
  | 13, _, _ => exact Or.inl (List.mem_of_getElem? (i := 496) (by decide +kernel))
  | 14, _, _ => exact Or.inl (List.mem_of_getElem? (i := 524) (by decide +kernel))
  | 15, _, _ => exact Or.inl (List.mem_of_getElem? (i := 553) (by decide +kernel))
  | 16, _, _ => exact Or.inl (List.mem_of_getElem? (i := 582) (by decide +kernel))
  | 17, _, _ => exact Or.inl (List.mem_of_getElem? (i := 614) (by decide +kernel))
  | 18, _, _ => exact Or.inl (List.mem_of_getElem? (i := 645) (by decide +kernel))
  | 19, _, _ => exact Or.inr (List.mem_of_getElem? (i := 237) (by decide +kernel))
  | n + 20, h, _ => exact absurd h (by omega)
set_option maxRecDepth 100000 in
theorem fl_ne1 : ∀ j : Nat, j < 20 → 1 ≠ j → Cond.not (Cond.eq (tmS 1) (tmS j)) ∈ fl1 ∨ Cond.not (Cond.eq (tmS j) (tmS 1)) ∈ fl1 := fun j hj hij => by
  match j, hj, hij with
  | 0, _, _ => exact (fl_ne0 1 (by decide) (by decide)).symm
  | 1, _, h => exact absurd rfl h
  | 2, _, _ => exact Or.inl (List.mem_of_getElem? (i := 269) (by decide +kernel))
  | 3, _, _ => exact Or.inl (List.mem_of_getElem? (i := 285) (by decide +kernel))
  | 4, _, _ => exact Or.inl (List.mem_of_getElem? (i := 302) (by decide +kernel))
  | 5, _, _ => exact Or.inl (List.mem_of_getElem? (i := 320) (by decide +kernel))
  | 6, _, _ => exact Or.inl (List.mem_of_getElem? (i := 339) (by decide +kernel))
  | 7, _, _ => exact Or.inl (List.mem_of_getElem? (i := 360) (by decide +kernel))
  | 8, _, _ => exact Or.inl (List.mem_of_getElem? (i := 382) (by decide +kernel))
  | 9, _, _ => exact Or.inl (List.mem_of_getElem? (i := 402) (by decide +kernel))
  | 10, _, _ => exact Or.inl (List.mem_of_getElem? (i := 424) (by decide +kernel))
  | 11, _, _ => exact Or.inl (List.mem_of_getElem? (i := 446) (by decide +kernel))
  | 12, _, _ => exact Or.inl (List.mem_of_getElem? (i := 471) (by decide +kernel))
  | 13, _, _ => exact Or.inl (List.mem_of_getElem? (i := 497) (by decide +kernel))
  | 14, _, _ => exact Or.inl (List.mem_of_getElem? (i := 525) (by decide +kernel))
  | 15, _, _ => exact Or.inl (List.mem_of_getElem? (i := 554) (by decide +kernel))
  | 16, _, _ => exact Or.inl (List.mem_of_getElem? (i := 583) (by decide +kernel))
  | 17, _, _ => exact Or.inl (List.mem_of_getElem? (i := 615) (by decide +kernel))
  | 18, _, _ => exact Or.inl (List.mem_of_getElem? (i := 646) (by decide +kernel))
  | 19, _, _ => exact Or.inr (List.mem_of_getElem? (i := 250) (by decide +kernel))
  | n + 20, h, _ => exact absurd h (by omega)
set_option maxRecDepth 100000 in
theorem fl_ne2 : ∀ j : Nat, j < 20 → 2 ≠ j → Cond.not (Cond.eq (tmS 2) (tmS j)) ∈ fl1 ∨ Cond.not (Cond.eq (tmS j) (tmS 2)) ∈ fl1 := fun j hj hij => by
  match j, hj, hij with
  | 0, _, _ => exact (fl_ne0 2 (by decide) (by decide)).symm
  | 1, _, _ => exact (fl_ne1 2 (by decide) (by decide)).symm
  | 2, _, h => exact absurd rfl h
  | 3, _, _ => exact Or.inl (List.mem_of_getElem? (i := 286) (by decide +kernel))
  | 4, _, _ => exact Or.inl (List.mem_of_getElem? (i := 303) (by decide +kernel))
  | 5, _, _ => exact Or.inl (List.mem_of_getElem? (i := 321) (by decide +kernel))
  | 6, _, _ => exact Or.inl (List.mem_of_getElem? (i := 340) (by decide +kernel))
  | 7, _, _ => exact Or.inl (List.mem_of_getElem? (i := 361) (by decide +kernel))
  | 8, _, _ => exact Or.inl (List.mem_of_getElem? (i := 383) (by decide +kernel))
  | 9, _, _ => exact Or.inl (List.mem_of_getElem? (i := 403) (by decide +kernel))
  | 10, _, _ => exact Or.inl (List.mem_of_getElem? (i := 425) (by decide +kernel))
  | 11, _, _ => exact Or.inl (List.mem_of_getElem? (i := 447) (by decide +kernel))
  | 12, _, _ => exact Or.inl (List.mem_of_getElem? (i := 472) (by decide +kernel))
  | 13, _, _ => exact Or.inl (List.mem_of_getElem? (i := 498) (by decide +kernel))
  | 14, _, _ => exact Or.inl (List.mem_of_getElem? (i := 526) (by decide +kernel))
  | 15, _, _ => exact Or.inl (List.mem_of_getElem? (i := 555) (by decide +kernel))
  | 16, _, _ => exact Or.inl (List.mem_of_getElem? (i := 584) (by decide +kernel))
  | 17, _, _ => exact Or.inl (List.mem_of_getElem? (i := 616) (by decide +kernel))
  | 18, _, _ => exact Or.inl (List.mem_of_getElem? (i := 647) (by decide +kernel))
  | 19, _, _ => exact Or.inr (List.mem_of_getElem? (i := 265) (by decide +kernel))
  | n + 20, h, _ => exact absurd h (by omega)
set_option maxRecDepth 100000 in
theorem fl_ne3 : ∀ j : Nat, j < 20 → 3 ≠ j → Cond.not (Cond.eq (tmS 3) (tmS j)) ∈ fl1 ∨ Cond.not (Cond.eq (tmS j) (tmS 3)) ∈ fl1 := fun j hj hij => by
  match j, hj, hij with
  | 0, _, _ => exact (fl_ne0 3 (by decide) (by decide)).symm
  | 1, _, _ => exact (fl_ne1 3 (by decide) (by decide)).symm
  | 2, _, _ => exact (fl_ne2 3 (by decide) (by decide)).symm
  | 3, _, h => exact absurd rfl h
  | 4, _, _ => exact Or.inl (List.mem_of_getElem? (i := 304) (by decide +kernel))
  | 5, _, _ => exact Or.inl (List.mem_of_getElem? (i := 322) (by decide +kernel))
  | 6, _, _ => exact Or.inl (List.mem_of_getElem? (i := 341) (by decide +kernel))
  | 7, _, _ => exact Or.inl (List.mem_of_getElem? (i := 362) (by decide +kernel))
  | 8, _, _ => exact Or.inl (List.mem_of_getElem? (i := 384) (by decide +kernel))
  | 9, _, _ => exact Or.inl (List.mem_of_getElem? (i := 404) (by decide +kernel))
  | 10, _, _ => exact Or.inl (List.mem_of_getElem? (i := 426) (by decide +kernel))
  | 11, _, _ => exact Or.inl (List.mem_of_getElem? (i := 448) (by decide +kernel))
  | 12, _, _ => exact Or.inl (List.mem_of_getElem? (i := 473) (by decide +kernel))
  | 13, _, _ => exact Or.inl (List.mem_of_getElem? (i := 499) (by decide +kernel))
  | 14, _, _ => exact Or.inl (List.mem_of_getElem? (i := 527) (by decide +kernel))
  | 15, _, _ => exact Or.inl (List.mem_of_getElem? (i := 556) (by decide +kernel))
  | 16, _, _ => exact Or.inl (List.mem_of_getElem? (i := 585) (by decide +kernel))
  | 17, _, _ => exact Or.inl (List.mem_of_getElem? (i := 617) (by decide +kernel))
  | 18, _, _ => exact Or.inl (List.mem_of_getElem? (i := 648) (by decide +kernel))
  | 19, _, _ => exact Or.inr (List.mem_of_getElem? (i := 281) (by decide +kernel))
  | n + 20, h, _ => exact absurd h (by omega)
set_option maxRecDepth 100000 in
theorem fl_ne4 : ∀ j : Nat, j < 20 → 4 ≠ j → Cond.not (Cond.eq (tmS 4) (tmS j)) ∈ fl1 ∨ Cond.not (Cond.eq (tmS j) (tmS 4)) ∈ fl1 := fun j hj hij => by
  match j, hj, hij with
  | 0, _, _ => exact (fl_ne0 4 (by decide) (by decide)).symm
  | 1, _, _ => exact (fl_ne1 4 (by decide) (by decide)).symm
  | 2, _, _ => exact (fl_ne2 4 (by decide) (by decide)).symm
  | 3, _, _ => exact (fl_ne3 4 (by decide) (by decide)).symm
  | 4, _, h => exact absurd rfl h
  | 5, _, _ => exact Or.inl (List.mem_of_getElem? (i := 323) (by decide +kernel))
  | 6, _, _ => exact Or.inl (List.mem_of_getElem? (i := 342) (by decide +kernel))
  | 7, _, _ => exact Or.inl (List.mem_of_getElem? (i := 363) (by decide +kernel))
  | 8, _, _ => exact Or.inl (List.mem_of_getElem? (i := 385) (by decide +kernel))
  | 9, _, _ => exact Or.inl (List.mem_of_getElem? (i := 405) (by decide +kernel))
  | 10, _, _ => exact Or.inl (List.mem_of_getElem? (i := 427) (by decide +kernel))
  | 11, _, _ => exact Or.inl (List.mem_of_getElem? (i := 449) (by decide +kernel))
  | 12, _, _ => exact Or.inl (List.mem_of_getElem? (i := 474) (by decide +kernel))
  | 13, _, _ => exact Or.inl (List.mem_of_getElem? (i := 500) (by decide +kernel))
  | 14, _, _ => exact Or.inl (List.mem_of_getElem? (i := 528) (by decide +kernel))
  | 15, _, _ => exact Or.inl (List.mem_of_getElem? (i := 557) (by decide +kernel))
  | 16, _, _ => exact Or.inl (List.mem_of_getElem? (i := 586) (by decide +kernel))
  | 17, _, _ => exact Or.inl (List.mem_of_getElem? (i := 618) (by decide +kernel))
  | 18, _, _ => exact Or.inl (List.mem_of_getElem? (i := 649) (by decide +kernel))
  | 19, _, _ => exact Or.inr (List.mem_of_getElem? (i := 298) (by decide +kernel))
  | n + 20, h, _ => exact absurd h (by omega)
set_option maxRecDepth 100000 in
theorem fl_ne5 : ∀ j : Nat, j < 20 → 5 ≠ j → Cond.not (Cond.eq (tmS 5) (tmS j)) ∈ fl1 ∨ Cond.not (Cond.eq (tmS j) (tmS 5)) ∈ fl1 := fun j hj hij => by
  match j, hj, hij with
  | 0, _, _ => exact (fl_ne0 5 (by decide) (by decide)).symm
  | 1, _, _ => exact (fl_ne1 5 (by decide) (by decide)).symm
  | 2, _, _ => exact (fl_ne2 5 (by decide) (by decide)).symm
  | 3, _, _ => exact (fl_ne3 5 (by decide) (by decide)).symm
  | 4, _, _ => exact (fl_ne4 5 (by decide) (by decide)).symm
  | 5, _, h => exact absurd rfl h
  | 6, _, _ => exact Or.inl (List.mem_of_getElem? (i := 343) (by decide +kernel))
  | 7, _, _ => exact Or.inl (List.mem_of_getElem? (i := 364) (by decide +kernel))
  | 8, _, _ => exact Or.inl (List.mem_of_getElem? (i := 386) (by decide +kernel))
  | 9, _, _ => exact Or.inl (List.mem_of_getElem? (i := 406) (by decide +kernel))
  | 10, _, _ => exact Or.inl (List.mem_of_getElem? (i := 428) (by decide +kernel))
  | 11, _, _ => exact Or.inl (List.mem_of_getElem? (i := 450) (by decide +kernel))
  | 12, _, _ => exact Or.inl (List.mem_of_getElem? (i := 475) (by decide +kernel))
  | 13, _, _ => exact Or.inl (List.mem_of_getElem? (i := 501) (by decide +kernel))
  | 14, _, _ => exact Or.inl (List.mem_of_getElem? (i := 529) (by decide +kernel))
  | 15, _, _ => exact Or.inl (List.mem_of_getElem? (i := 558) (by decide +kernel))
  | 16, _, _ => exact Or.inl (List.mem_of_getElem? (i := 587) (by decide +kernel))
  | 17, _, _ => exact Or.inl (List.mem_of_getElem? (i := 619) (by decide +kernel))
  | 18, _, _ => exact Or.inl (List.mem_of_getElem? (i := 650) (by decide +kernel))
  | 19, _, _ => exact Or.inr (List.mem_of_getElem? (i := 316) (by decide +kernel))
  | n + 20, h, _ => exact absurd h (by omega)
set_option maxRecDepth 100000 in
theorem fl_ne6 : ∀ j : Nat, j < 20 → 6 ≠ j → Cond.not (Cond.eq (tmS 6) (tmS j)) ∈ fl1 ∨ Cond.not (Cond.eq (tmS j) (tmS 6)) ∈ fl1 := fun j hj hij => by
  match j, hj, hij with
  | 0, _, _ => exact (fl_ne0 6 (by decide) (by decide)).symm
  | 1, _, _ => exact (fl_ne1 6 (by decide) (by decide)).symm
  | 2, _, _ => exact (fl_ne2 6 (by decide) (by decide)).symm
  | 3, _, _ => exact (fl_ne3 6 (by decide) (by decide)).symm
  | 4, _, _ => exact (fl_ne4 6 (by decide) (by decide)).symm
  | 5, _, _ => exact (fl_ne5 6 (by decide) (by decide)).symm
  | 6, _, h => exact absurd rfl h
  | 7, _, _ => exact Or.inl (List.mem_of_getElem? (i := 365) (by decide +kernel))
  | 8, _, _ => exact Or.inl (List.mem_of_getElem? (i := 387) (by decide +kernel))
  | 9, _, _ => exact Or.inl (List.mem_of_getElem? (i := 407) (by decide +kernel))
  | 10, _, _ => exact Or.inl (List.mem_of_getElem? (i := 429) (by decide +kernel))
  | 11, _, _ => exact Or.inl (List.mem_of_getElem? (i := 451) (by decide +kernel))
  | 12, _, _ => exact Or.inl (List.mem_of_getElem? (i := 476) (by decide +kernel))
  | 13, _, _ => exact Or.inl (List.mem_of_getElem? (i := 502) (by decide +kernel))
  | 14, _, _ => exact Or.inl (List.mem_of_getElem? (i := 530) (by decide +kernel))
  | 15, _, _ => exact Or.inl (List.mem_of_getElem? (i := 559) (by decide +kernel))
  | 16, _, _ => exact Or.inl (List.mem_of_getElem? (i := 588) (by decide +kernel))
  | 17, _, _ => exact Or.inl (List.mem_of_getElem? (i := 620) (by decide +kernel))
  | 18, _, _ => exact Or.inl (List.mem_of_getElem? (i := 651) (by decide +kernel))
  | 19, _, _ => exact Or.inr (List.mem_of_getElem? (i := 335) (by decide +kernel))
  | n + 20, h, _ => exact absurd h (by omega)
set_option maxRecDepth 100000 in
theorem fl_ne7 : ∀ j : Nat, j < 20 → 7 ≠ j → Cond.not (Cond.eq (tmS 7) (tmS j)) ∈ fl1 ∨ Cond.not (Cond.eq (tmS j) (tmS 7)) ∈ fl1 := fun j hj hij => by
  match j, hj, hij with
  | 0, _, _ => exact (fl_ne0 7 (by decide) (by decide)).symm
  | 1, _, _ => exact (fl_ne1 7 (by decide) (by decide)).symm
  | 2, _, _ => exact (fl_ne2 7 (by decide) (by decide)).symm
  | 3, _, _ => exact (fl_ne3 7 (by decide) (by decide)).symm
  | 4, _, _ => exact (fl_ne4 7 (by decide) (by decide)).symm
  | 5, _, _ => exact (fl_ne5 7 (by decide) (by decide)).symm
  | 6, _, _ => exact (fl_ne6 7 (by decide) (by decide)).symm
  | 7, _, h => exact absurd rfl h
  | 8, _, _ => exact Or.inl (List.mem_of_getElem? (i := 388) (by decide +kernel))
  | 9, _, _ => exact Or.inl (List.mem_of_getElem? (i := 408) (by decide +kernel))
  | 10, _, _ => exact Or.inl (List.mem_of_getElem? (i := 430) (by decide +kernel))
  | 11, _, _ => exact Or.inl (List.mem_of_getElem? (i := 452) (by decide +kernel))
  | 12, _, _ => exact Or.inl (List.mem_of_getElem? (i := 477) (by decide +kernel))
  | 13, _, _ => exact Or.inl (List.mem_of_getElem? (i := 503) (by decide +kernel))
  | 14, _, _ => exact Or.inl (List.mem_of_getElem? (i := 531) (by decide +kernel))
  | 15, _, _ => exact Or.inl (List.mem_of_getElem? (i := 560) (by decide +kernel))
  | 16, _, _ => exact Or.inl (List.mem_of_getElem? (i := 589) (by decide +kernel))
  | 17, _, _ => exact Or.inl (List.mem_of_getElem? (i := 621) (by decide +kernel))
  | 18, _, _ => exact Or.inl (List.mem_of_getElem? (i := 652) (by decide +kernel))
  | 19, _, _ => exact Or.inr (List.mem_of_getElem? (i := 356) (by decide +kernel))
  | n + 20, h, _ => exact absurd h (by omega)
set_option maxRecDepth 100000 in
theorem fl_ne8 : ∀ j : Nat, j < 20 → 8 ≠ j → Cond.not (Cond.eq (tmS 8) (tmS j)) ∈ fl1 ∨ Cond.not (Cond.eq (tmS j) (tmS 8)) ∈ fl1 := fun j hj hij => by
  match j, hj, hij with
  | 0, _, _ => exact (fl_ne0 8 (by decide) (by decide)).symm
  | 1, _, _ => exact (fl_ne1 8 (by decide) (by decide)).symm
  | 2, _, _ => exact (fl_ne2 8 (by decide) (by decide)).symm
  | 3, _, _ => exact (fl_ne3 8 (by decide) (by decide)).symm
  | 4, _, _ => exact (fl_ne4 8 (by decide) (by decide)).symm
  | 5, _, _ => exact (fl_ne5 8 (by decide) (by decide)).symm
  | 6, _, _ => exact (fl_ne6 8 (by decide) (by decide)).symm
  | 7, _, _ => exact (fl_ne7 8 (by decide) (by decide)).symm
  | 8, _, h => exact absurd rfl h
  | 9, _, _ => exact Or.inl (List.mem_of_getElem? (i := 409) (by decide +kernel))
  | 10, _, _ => exact Or.inl (List.mem_of_getElem? (i := 431) (by decide +kernel))
  | 11, _, _ => exact Or.inl (List.mem_of_getElem? (i := 453) (by decide +kernel))
  | 12, _, _ => exact Or.inl (List.mem_of_getElem? (i := 478) (by decide +kernel))
  | 13, _, _ => exact Or.inl (List.mem_of_getElem? (i := 504) (by decide +kernel))
  | 14, _, _ => exact Or.inl (List.mem_of_getElem? (i := 532) (by decide +kernel))
  | 15, _, _ => exact Or.inl (List.mem_of_getElem? (i := 561) (by decide +kernel))
  | 16, _, _ => exact Or.inl (List.mem_of_getElem? (i := 590) (by decide +kernel))
  | 17, _, _ => exact Or.inl (List.mem_of_getElem? (i := 622) (by decide +kernel))
  | 18, _, _ => exact Or.inl (List.mem_of_getElem? (i := 653) (by decide +kernel))
  | 19, _, _ => exact Or.inr (List.mem_of_getElem? (i := 378) (by decide +kernel))
  | n + 20, h, _ => exact absurd h (by omega)
set_option maxRecDepth 100000 in
theorem fl_ne9 : ∀ j : Nat, j < 20 → 9 ≠ j → Cond.not (Cond.eq (tmS 9) (tmS j)) ∈ fl1 ∨ Cond.not (Cond.eq (tmS j) (tmS 9)) ∈ fl1 := fun j hj hij => by
  match j, hj, hij with
  | 0, _, _ => exact (fl_ne0 9 (by decide) (by decide)).symm
  | 1, _, _ => exact (fl_ne1 9 (by decide) (by decide)).symm
  | 2, _, _ => exact (fl_ne2 9 (by decide) (by decide)).symm
  | 3, _, _ => exact (fl_ne3 9 (by decide) (by decide)).symm
  | 4, _, _ => exact (fl_ne4 9 (by decide) (by decide)).symm
  | 5, _, _ => exact (fl_ne5 9 (by decide) (by decide)).symm
  | 6, _, _ => exact (fl_ne6 9 (by decide) (by decide)).symm
  | 7, _, _ => exact (fl_ne7 9 (by decide) (by decide)).symm
  | 8, _, _ => exact (fl_ne8 9 (by decide) (by decide)).symm
  | 9, _, h => exact absurd rfl h
  | 10, _, _ => exact Or.inl (List.mem_of_getElem? (i := 432) (by decide +kernel))
  | 11, _, _ => exact Or.inl (List.mem_of_getElem? (i := 454) (by decide +kernel))
  | 12, _, _ => exact Or.inl (List.mem_of_getElem? (i := 479) (by decide +kernel))
  | 13, _, _ => exact Or.inl (List.mem_of_getElem? (i := 505) (by decide +kernel))
  | 14, _, _ => exact Or.inl (List.mem_of_getElem? (i := 533) (by decide +kernel))
  | 15, _, _ => exact Or.inl (List.mem_of_getElem? (i := 562) (by decide +kernel))
  | 16, _, _ => exact Or.inl (List.mem_of_getElem? (i := 591) (by decide +kernel))
  | 17, _, _ => exact Or.inl (List.mem_of_getElem? (i := 623) (by decide +kernel))
  | 18, _, _ => exact Or.inl (List.mem_of_getElem? (i := 654) (by decide +kernel))
  | 19, _, _ => exact Or.inr (List.mem_of_getElem? (i := 398) (by decide +kernel))
  | n + 20, h, _ => exact absurd h (by omega)
set_option maxRecDepth 100000 in
theorem fl_ne10 : ∀ j : Nat, j < 20 → 10 ≠ j → Cond.not (Cond.eq (tmS 10) (tmS j)) ∈ fl1 ∨ Cond.not (Cond.eq (tmS j) (tmS 10)) ∈ fl1 := fun j hj hij => by
  match j, hj, hij with
  | 0, _, _ => exact (fl_ne0 10 (by decide) (by decide)).symm
  | 1, _, _ => exact (fl_ne1 10 (by decide) (by decide)).symm
  | 2, _, _ => exact (fl_ne2 10 (by decide) (by decide)).symm
  | 3, _, _ => exact (fl_ne3 10 (by decide) (by decide)).symm
  | 4, _, _ => exact (fl_ne4 10 (by decide) (by decide)).symm
  | 5, _, _ => exact (fl_ne5 10 (by decide) (by decide)).symm
  | 6, _, _ => exact (fl_ne6 10 (by decide) (by decide)).symm
  | 7, _, _ => exact (fl_ne7 10 (by decide) (by decide)).symm
  | 8, _, _ => exact (fl_ne8 10 (by decide) (by decide)).symm
  | 9, _, _ => exact (fl_ne9 10 (by decide) (by decide)).symm
  | 10, _, h => exact absurd rfl h
  | 11, _, _ => exact Or.inl (List.mem_of_getElem? (i := 455) (by decide +kernel))
  | 12, _, _ => exact Or.inl (List.mem_of_getElem? (i := 480) (by decide +kernel))
  | 13, _, _ => exact Or.inl (List.mem_of_getElem? (i := 506) (by decide +kernel))
  | 14, _, _ => exact Or.inl (List.mem_of_getElem? (i := 534) (by decide +kernel))
  | 15, _, _ => exact Or.inl (List.mem_of_getElem? (i := 563) (by decide +kernel))
  | 16, _, _ => exact Or.inl (List.mem_of_getElem? (i := 592) (by decide +kernel))
  | 17, _, _ => exact Or.inl (List.mem_of_getElem? (i := 624) (by decide +kernel))
  | 18, _, _ => exact Or.inl (List.mem_of_getElem? (i := 655) (by decide +kernel))
  | 19, _, _ => exact Or.inr (List.mem_of_getElem? (i := 420) (by decide +kernel))
  | n + 20, h, _ => exact absurd h (by omega)
set_option maxRecDepth 100000 in
theorem fl_ne11 : ∀ j : Nat, j < 20 → 11 ≠ j → Cond.not (Cond.eq (tmS 11) (tmS j)) ∈ fl1 ∨ Cond.not (Cond.eq (tmS j) (tmS 11)) ∈ fl1 := fun j hj hij => by
  match j, hj, hij with
  | 0, _, _ => exact (fl_ne0 11 (by decide) (by decide)).symm
  | 1, _, _ => exact (fl_ne1 11 (by decide) (by decide)).symm
  | 2, _, _ => exact (fl_ne2 11 (by decide) (by decide)).symm
  | 3, _, _ => exact (fl_ne3 11 (by decide) (by decide)).symm
  | 4, _, _ => exact (fl_ne4 11 (by decide) (by decide)).symm
  | 5, _, _ => exact (fl_ne5 11 (by decide) (by decide)).symm
  | 6, _, _ => exact (fl_ne6 11 (by decide) (by decide)).symm
  | 7, _, _ => exact (fl_ne7 11 (by decide) (by decide)).symm
  | 8, _, _ => exact (fl_ne8 11 (by decide) (by decide)).symm
  | 9, _, _ => exact (fl_ne9 11 (by decide) (by decide)).symm
  | 10, _, _ => exact (fl_ne10 11 (by decide) (by decide)).symm
  | 11, _, h => exact absurd rfl h
  | 12, _, _ => exact Or.inl (List.mem_of_getElem? (i := 481) (by decide +kernel))
  | 13, _, _ => exact Or.inl (List.mem_of_getElem? (i := 507) (by decide +kernel))
  | 14, _, _ => exact Or.inl (List.mem_of_getElem? (i := 535) (by decide +kernel))
  | 15, _, _ => exact Or.inl (List.mem_of_getElem? (i := 564) (by decide +kernel))
  | 16, _, _ => exact Or.inl (List.mem_of_getElem? (i := 593) (by decide +kernel))
  | 17, _, _ => exact Or.inl (List.mem_of_getElem? (i := 625) (by decide +kernel))
  | 18, _, _ => exact Or.inl (List.mem_of_getElem? (i := 656) (by decide +kernel))
  | 19, _, _ => exact Or.inr (List.mem_of_getElem? (i := 442) (by decide +kernel))
  | n + 20, h, _ => exact absurd h (by omega)
set_option maxRecDepth 100000 in
theorem fl_ne12 : ∀ j : Nat, j < 20 → 12 ≠ j → Cond.not (Cond.eq (tmS 12) (tmS j)) ∈ fl1 ∨ Cond.not (Cond.eq (tmS j) (tmS 12)) ∈ fl1 := fun j hj hij => by
  match j, hj, hij with
  | 0, _, _ => exact (fl_ne0 12 (by decide) (by decide)).symm
  | 1, _, _ => exact (fl_ne1 12 (by decide) (by decide)).symm
  | 2, _, _ => exact (fl_ne2 12 (by decide) (by decide)).symm
  | 3, _, _ => exact (fl_ne3 12 (by decide) (by decide)).symm
  | 4, _, _ => exact (fl_ne4 12 (by decide) (by decide)).symm
  | 5, _, _ => exact (fl_ne5 12 (by decide) (by decide)).symm
  | 6, _, _ => exact (fl_ne6 12 (by decide) (by decide)).symm
  | 7, _, _ => exact (fl_ne7 12 (by decide) (by decide)).symm
  | 8, _, _ => exact (fl_ne8 12 (by decide) (by decide)).symm
  | 9, _, _ => exact (fl_ne9 12 (by decide) (by decide)).symm
  | 10, _, _ => exact (fl_ne10 12 (by decide) (by decide)).symm
  | 11, _, _ => exact (fl_ne11 12 (by decide) (by decide)).symm
  | 12, _, h => exact absurd rfl h
  | 13, _, _ => exact Or.inl (List.mem_of_getElem? (i := 508) (by decide +kernel))
  | 14, _, _ => exact Or.inl (List.mem_of_getElem? (i := 536) (by decide +kernel))
  | 15, _, _ => exact Or.inl (List.mem_of_getElem? (i := 565) (by decide +kernel))
  | 16, _, _ => exact Or.inl (List.mem_of_getElem? (i := 594) (by decide +kernel))
  | 17, _, _ => exact Or.inl (List.mem_of_getElem? (i := 626) (by decide +kernel))
  | 18, _, _ => exact Or.inl (List.mem_of_getElem? (i := 657) (by decide +kernel))
  | 19, _, _ => exact Or.inr (List.mem_of_getElem? (i := 467) (by decide +kernel))
  | n + 20, h, _ => exact absurd h (by omega)
set_option maxRecDepth 100000 in
theorem fl_ne13 : ∀ j : Nat, j < 20 → 13 ≠ j → Cond.not (Cond.eq (tmS 13) (tmS j)) ∈ fl1 ∨ Cond.not (Cond.eq (tmS j) (tmS 13)) ∈ fl1 := fun j hj hij => by
  match j, hj, hij with
  | 0, _, _ => exact (fl_ne0 13 (by decide) (by decide)).symm
  | 1, _, _ => exact (fl_ne1 13 (by decide) (by decide)).symm
  | 2, _, _ => exact (fl_ne2 13 (by decide) (by decide)).symm
  | 3, _, _ => exact (fl_ne3 13 (by decide) (by decide)).symm
  | 4, _, _ => exact (fl_ne4 13 (by decide) (by decide)).symm
  | 5, _, _ => exact (fl_ne5 13 (by decide) (by decide)).symm
  | 6, _, _ => exact (fl_ne6 13 (by decide) (by decide)).symm
  | 7, _, _ => exact (fl_ne7 13 (by decide) (by decide)).symm
  | 8, _, _ => exact (fl_ne8 13 (by decide) (by decide)).symm
  | 9, _, _ => exact (fl_ne9 13 (by decide) (by decide)).symm
  | 10, _, _ => exact (fl_ne10 13 (by decide) (by decide)).symm
  | 11, _, _ => exact (fl_ne11 13 (by decide) (by decide)).symm
  | 12, _, _ => exact (fl_ne12 13 (by decide) (by decide)).symm
  | 13, _, h => exact absurd rfl h
  | 14, _, _ => exact Or.inl (List.mem_of_getElem? (i := 537) (by decide +kernel))
  | 15, _, _ => exact Or.inl (List.mem_of_getElem? (i := 566) (by decide +kernel))
  | 16, _, _ => exact Or.inl (List.mem_of_getElem? (i := 595) (by decide +kernel))
  | 17, _, _ => exact Or.inl (List.mem_of_getElem? (i := 627) (by decide +kernel))
  | 18, _, _ => exact Or.inl (List.mem_of_getElem? (i := 658) (by decide +kernel))
  | 19, _, _ => exact Or.inr (List.mem_of_getElem? (i := 493) (by decide +kernel))
  | n + 20, h, _ => exact absurd h (by omega)
set_option maxRecDepth 100000 in
theorem fl_ne14 : ∀ j : Nat, j < 20 → 14 ≠ j → Cond.not (Cond.eq (tmS 14) (tmS j)) ∈ fl1 ∨ Cond.not (Cond.eq (tmS j) (tmS 14)) ∈ fl1 := fun j hj hij => by
  match j, hj, hij with
  | 0, _, _ => exact (fl_ne0 14 (by decide) (by decide)).symm
  | 1, _, _ => exact (fl_ne1 14 (by decide) (by decide)).symm
  | 2, _, _ => exact (fl_ne2 14 (by decide) (by decide)).symm
  | 3, _, _ => exact (fl_ne3 14 (by decide) (by decide)).symm
  | 4, _, _ => exact (fl_ne4 14 (by decide) (by decide)).symm
  | 5, _, _ => exact (fl_ne5 14 (by decide) (by decide)).symm
  | 6, _, _ => exact (fl_ne6 14 (by decide) (by decide)).symm
  | 7, _, _ => exact (fl_ne7 14 (by decide) (by decide)).symm
  | 8, _, _ => exact (fl_ne8 14 (by decide) (by decide)).symm
  | 9, _, _ => exact (fl_ne9 14 (by decide) (by decide)).symm
  | 10, _, _ => exact (fl_ne10 14 (by decide) (by decide)).symm
  | 11, _, _ => exact (fl_ne11 14 (by decide) (by decide)).symm
  | 12, _, _ => exact (fl_ne12 14 (by decide) (by decide)).symm
  | 13, _, _ => exact (fl_ne13 14 (by decide) (by decide)).symm
  | 14, _, h => exact absurd rfl h
  | 15, _, _ => exact Or.inl (List.mem_of_getElem? (i := 567) (by decide +kernel))
  | 16, _, _ => exact Or.inl (List.mem_of_getElem? (i := 596) (by decide +kernel))
  | 17, _, _ => exact Or.inl (List.mem_of_getElem? (i := 628) (by decide +kernel))
  | 18, _, _ => exact Or.inl (List.mem_of_getElem? (i := 659) (by decide +kernel))
  | 19, _, _ => exact Or.inr (List.mem_of_getElem? (i := 521) (by decide +kernel))
  | n + 20, h, _ => exact absurd h (by omega)
set_option maxRecDepth 100000 in
theorem fl_ne15 : ∀ j : Nat, j < 20 → 15 ≠ j → Cond.not (Cond.eq (tmS 15) (tmS j)) ∈ fl1 ∨ Cond.not (Cond.eq (tmS j) (tmS 15)) ∈ fl1 := fun j hj hij => by
  match j, hj, hij with
  | 0, _, _ => exact (fl_ne0 15 (by decide) (by decide)).symm
  | 1, _, _ => exact (fl_ne1 15 (by decide) (by decide)).symm
  | 2, _, _ => exact (fl_ne2 15 (by decide) (by decide)).symm
  | 3, _, _ => exact (fl_ne3 15 (by decide) (by decide)).symm
  | 4, _, _ => exact (fl_ne4 15 (by decide) (by decide)).symm
  | 5, _, _ => exact (fl_ne5 15 (by decide) (by decide)).symm
  | 6, _, _ => exact (fl_ne6 15 (by decide) (by decide)).symm
  | 7, _, _ => exact (fl_ne7 15 (by decide) (by decide)).symm
  | 8, _, _ => exact (fl_ne8 15 (by decide) (by decide)).symm
  | 9, _, _ => exact (fl_ne9 15 (by decide) (by decide)).symm
  | 10, _, _ => exact (fl_ne10 15 (by decide) (by decide)).symm
  | 11, _, _ => exact (fl_ne11 15 (by decide) (by decide)).symm
  | 12, _, _ => exact (fl_ne12 15 (by decide) (by decide)).symm
  | 13, _, _ => exact (fl_ne13 15 (by decide) (by decide)).symm
  | 14, _, _ => exact (fl_ne14 15 (by decide) (by decide)).symm
  | 15, _, h => exact absurd rfl h
  | 16, _, _ => exact Or.inl (List.mem_of_getElem? (i := 597) (by decide +kernel))
  | 17, _, _ => exact Or.inl (List.mem_of_getElem? (i := 629) (by decide +kernel))
  | 18, _, _ => exact Or.inl (List.mem_of_getElem? (i := 660) (by decide +kernel))
  | 19, _, _ => exact Or.inr (List.mem_of_getElem? (i := 550) (by decide +kernel))
  | n + 20, h, _ => exact absurd h (by omega)
set_option maxRecDepth 100000 in
theorem fl_ne16 : ∀ j : Nat, j < 20 → 16 ≠ j → Cond.not (Cond.eq (tmS 16) (tmS j)) ∈ fl1 ∨ Cond.not (Cond.eq (tmS j) (tmS 16)) ∈ fl1 := fun j hj hij => by
  match j, hj, hij with
  | 0, _, _ => exact (fl_ne0 16 (by decide) (by decide)).symm
  | 1, _, _ => exact (fl_ne1 16 (by decide) (by decide)).symm
  | 2, _, _ => exact (fl_ne2 16 (by decide) (by decide)).symm
  | 3, _, _ => exact (fl_ne3 16 (by decide) (by decide)).symm
  | 4, _, _ => exact (fl_ne4 16 (by decide) (by decide)).symm
  | 5, _, _ => exact (fl_ne5 16 (by decide) (by decide)).symm
  | 6, _, _ => exact (fl_ne6 16 (by decide) (by decide)).symm
  | 7, _, _ => exact (fl_ne7 16 (by decide) (by decide)).symm
  | 8, _, _ => exact (fl_ne8 16 (by decide) (by decide)).symm
  | 9, _, _ => exact (fl_ne9 16 (by decide) (by decide)).symm
  | 10, _, _ => exact (fl_ne10 16 (by decide) (by decide)).symm
  | 11, _, _ => exact (fl_ne11 16 (by decide) (by decide)).symm
  | 12, _, _ => exact (fl_ne12 16 (by decide) (by decide)).symm
  | 13, _, _ => exact (fl_ne13 16 (by decide) (by decide)).symm
  | 14, _, _ => exact (fl_ne14 16 (by decide) (by decide)).symm
  | 15, _, _ => exact (fl_ne15 16 (by decide) (by decide)).symm
  | 16, _, h => exact absurd rfl h
  | 17, _, _ => exact Or.inl (List.mem_of_getElem? (i := 630) (by decide +kernel))
  | 18, _, _ => exact Or.inl (List.mem_of_getElem? (i := 661) (by decide +kernel))
  | 19, _, _ => exact Or.inr (List.mem_of_getElem? (i := 579) (by decide +kernel))
  | n + 20, h, _ => exact absurd h (by omega)
set_option maxRecDepth 100000 in
theorem fl_ne17 : ∀ j : Nat, j < 20 → 17 ≠ j → Cond.not (Cond.eq (tmS 17) (tmS j)) ∈ fl1 ∨ Cond.not (Cond.eq (tmS j) (tmS 17)) ∈ fl1 := fun j hj hij => by
  match j, hj, hij with
  | 0, _, _ => exact (fl_ne0 17 (by decide) (by decide)).symm
  | 1, _, _ => exact (fl_ne1 17 (by decide) (by decide)).symm
  | 2, _, _ => exact (fl_ne2 17 (by decide) (by decide)).symm
  | 3, _, _ => exact (fl_ne3 17 (by decide) (by decide)).symm
  | 4, _, _ => exact (fl_ne4 17 (by decide) (by decide)).symm
  | 5, _, _ => exact (fl_ne5 17 (by decide) (by decide)).symm
  | 6, _, _ => exact (fl_ne6 17 (by decide) (by decide)).symm
  | 7, _, _ => exact (fl_ne7 17 (by decide) (by decide)).symm
  | 8, _, _ => exact (fl_ne8 17 (by decide) (by decide)).symm
  | 9, _, _ => exact (fl_ne9 17 (by decide) (by decide)).symm
  | 10, _, _ => exact (fl_ne10 17 (by decide) (by decide)).symm
  | 11, _, _ => exact (fl_ne11 17 (by decide) (by decide)).symm
  | 12, _, _ => exact (fl_ne12 17 (by decide) (by decide)).symm
  | 13, _, _ => exact (fl_ne13 17 (by decide) (by decide)).symm
  | 14, _, _ => exact (fl_ne14 17 (by decide) (by decide)).symm
  | 15, _, _ => exact (fl_ne15 17 (by decide) (by decide)).symm
  | 16, _, _ => exact (fl_ne16 17 (by decide) (by decide)).symm
  | 17, _, h => exact absurd rfl h
  | 18, _, _ => exact Or.inl (List.mem_of_getElem? (i := 662) (by decide +kernel))
  | 19, _, _ => exact Or.inr (List.mem_of_getElem? (i := 611) (by decide +kernel))
  | n + 20, h, _ => exact absurd h (by omega)
set_option maxRecDepth 100000 in
theorem fl_ne18 : ∀ j : Nat, j < 20 → 18 ≠ j → Cond.not (Cond.eq (tmS 18) (tmS j)) ∈ fl1 ∨ Cond.not (Cond.eq (tmS j) (tmS 18)) ∈ fl1 := fun j hj hij => by
  match j, hj, hij with
  | 0, _, _ => exact (fl_ne0 18 (by decide) (by decide)).symm
  | 1, _, _ => exact (fl_ne1 18 (by decide) (by decide)).symm
  | 2, _, _ => exact (fl_ne2 18 (by decide) (by decide)).symm
  | 3, _, _ => exact (fl_ne3 18 (by decide) (by decide)).symm
  | 4, _, _ => exact (fl_ne4 18 (by decide) (by decide)).symm
  | 5, _, _ => exact (fl_ne5 18 (by decide) (by decide)).symm
  | 6, _, _ => exact (fl_ne6 18 (by decide) (by decide)).symm
  | 7, _, _ => exact (fl_ne7 18 (by decide) (by decide)).symm
  | 8, _, _ => exact (fl_ne8 18 (by decide) (by decide)).symm
  | 9, _, _ => exact (fl_ne9 18 (by decide) (by decide)).symm
  | 10, _, _ => exact (fl_ne10 18 (by decide) (by decide)).symm
  | 11, _, _ => exact (fl_ne11 18 (by decide) (by decide)).symm
  | 12, _, _ => exact (fl_ne12 18 (by decide) (by decide)).symm
  | 13, _, _ => exact (fl_ne13 18 (by decide) (by decide)).symm
  | 14, _, _ => exact (fl_ne14 18 (by decide) (by decide)).symm
  | 15, _, _ => exact (fl_ne15 18 (by decide) (by decide)).symm
  | 16, _, _ => exact (fl_ne16 18 (by decide) (by decide)).symm
  | 17, _, _ => exact (fl_ne17 18 (by decide) (by decide)).symm
  | 18, _, h => exact absurd rfl h
  | 19, _, _ => exact Or.inr (List.mem_of_getElem? (i := 642) (by decide +kernel))
  | n + 20, h, _ => exact absurd h (by omega)
set_option maxRecDepth 100000 in
theorem fl_ne19 : ∀ j : Nat, j < 20 → 19 ≠ j → Cond.not (Cond.eq (tmS 19) (tmS j)) ∈ fl1 ∨ Cond.not (Cond.eq (tmS j) (tmS 19)) ∈ fl1 := fun j hj hij => by
  match j, hj, hij with
  | 0, _, _ => exact (fl_ne0 19 (by decide) (by decide)).symm
  | 1, _, _ => exact (fl_ne1 19 (by decide) (by decide)).symm
  | 2, _, _ => exact (fl_ne2 19 (by decide) (by decide)).symm
  | 3, _, _ => exact (fl_ne3 19 (by decide) (by decide)).symm
  | 4, _, _ => exact (fl_ne4 19 (by decide) (by decide)).symm
  | 5, _, _ => exact (fl_ne5 19 (by decide) (by decide)).symm
  | 6, _, _ => exact (fl_ne6 19 (by decide) (by decide)).symm
  | 7, _, _ => exact (fl_ne7 19 (by decide) (by decide)).symm
  | 8, _, _ => exact (fl_ne8 19 (by decide) (by decide)).symm
  | 9, _, _ => exact (fl_ne9 19 (by decide) (by decide)).symm
  | 10, _, _ => exact (fl_ne10 19 (by decide) (by decide)).symm
  | 11, _, _ => exact (fl_ne11 19 (by decide) (by decide)).symm
  | 12, _, _ => exact (fl_ne12 19 (by decide) (by decide)).symm
  | 13, _, _ => exact (fl_ne13 19 (by decide) (by decide)).symm
  | 14, _, _ => exact (fl_ne14 19 (by decide) (by decide)).symm
  | 15, _, _ => exact (fl_ne15 19 (by decide) (by decide)).symm
  | 16, _, _ => exact (fl_ne16 19 (by decide) (by decide)).symm
  | 17, _, _ => exact (fl_ne17 19 (by decide) (by decide)).symm
  | 18, _, _ => exact (fl_ne18 19 (by decide) (by decide)).symm
  | 19, _, h => exact absurd rfl h
  | n + 20, h, _ => exact absurd h (by omega)
theorem fl_ne : ∀ i : Nat, i < 20 → ∀ j : Nat, j < 20 → i ≠ j → Cond.not (Cond.eq (tmS i) (tmS j)) ∈ fl1 ∨ Cond.not (Cond.eq (tmS j) (tmS i)) ∈ fl1 := fun i hi => by
  match i, hi with
  | 0, _ => exact fl_ne0
  | 1, _ => exact fl_ne1
  | 2, _ => exact fl_ne2
  | 3, _ => exact fl_ne3
  | 4, _ => exact fl_ne4
  | 5, _ => exact fl_ne5
  | 6, _ => exact fl_ne6
  | 7, _ => exact fl_ne7
  | 8, _ => exact fl_ne8
  | 9, _ => exact fl_ne9
  | 10, _ => exact fl_ne10
  | 11, _ => exact fl_ne11
  | 12, _ => exact fl_ne12
  | 13, _ => exact fl_ne13
  | 14, _ => exact fl_ne14
  | 15, _ => exact fl_ne15
  | 16, _ => exact fl_ne16
  | 17, _ => exact fl_ne17
  | 18, _ => exact fl_ne18
  | 19, _ => exact fl_ne19
  | n + 20, h => exact absurd h (by omega)
noncomputable def saf (a0 a1 a2 a3 a4 : Nat) (k1 v1 : Nat → Nat) : Nat → Nat := fun k => match k with
  | 0 => a0 | 1 => a1 | 2 => a2 | 3 => a3 | 4 => a4
  | k + 5 => if k < 20 then k1 k else v1 (k - 20)
theorem saf_k {a0 a1 a2 a3 a4 : Nat} {k1 v1 : Nat → Nat} {i : Nat} (h : i < 20) : saf a0 a1 a2 a3 a4 k1 v1 (5 + i) = k1 i := by
  rw [Nat.add_comm]
  show (if i < 20 then k1 i else v1 (i - 20)) = k1 i
  rw [if_pos h]
theorem saf_v {a0 a1 a2 a3 a4 : Nat} {k1 v1 : Nat → Nat} {i : Nat} (h : i < 20) : saf a0 a1 a2 a3 a4 k1 v1 (25 + i) = v1 i := by
  rw [show 25 + i = (20 + i) + 5 by omega]
  show (if 20 + i < 20 then k1 (20 + i) else v1 (20 + i - 20)) = v1 i
  rw [if_neg (by omega), Nat.add_sub_cancel_left]

set_option maxRecDepth 100000 in
set_option maxHeartbeats 4000000 in
theorem law_ev {s : State} {b : Nat} (hts : ∀ w ∈ lw_tbl, w.before #[Value.ref b] s = true) (hgv : (Jvm.Cond.and given_1 narrow_1).before #[Value.ref b] s = true) {k8 k9 : ClassId} (h8 : s.vm.findClass RX8 = some k8) (h9 : s.vm.findClass RX9 = some k9) : ∃ sa : Nat → Nat, ev sa (fun q : Nat => s.heap.size ≤ q) s s.heap := by
  have hA : ∀ a : Nat, a < s.heap.size → ¬ (fun q : Nat => s.heap.size ≤ q) a := fun a h => Nat.not_le.mpr h
  have hs := flat_of_before _ hgv
  have z1 : vx_Zq Bundle.tN "UNASSIGNED_STACK" Bundle.steD (fun q : Nat => s.heap.size ≤ q) s s.heap := vx_Zqof (hts (.laysStatic Bundle.tN "UNASSIGNED_STACK" Bundle.steD) (gt_t2 (List.mem_of_getElem? (i := 132) (by exact rfl)))) (hts (.initialized Bundle.tN) (gt_t1 (List.mem_of_getElem? (i := 10) (by exact rfl)))) (hs (.isRef (.static Bundle.tN "UNASSIGNED_STACK" Bundle.steD)) (by decide +kernel)) hA
  have z2 : vx_Zq Bundle.tN "SUPPRESSED_SENTINEL" Bundle.listD (fun q : Nat => s.heap.size ≤ q) s s.heap := vx_Zqof (hts (.laysStatic Bundle.tN "SUPPRESSED_SENTINEL" Bundle.listD) (gt_t2 (List.mem_of_getElem? (i := 134) (by exact rfl)))) (hts (.initialized Bundle.tN) (gt_t1 (List.mem_of_getElem? (i := 10) (by exact rfl)))) (hs (.isRef (.static Bundle.tN "SUPPRESSED_SENTINEL" Bundle.listD)) (by decide +kernel)) hA
  have z3 : va_Z RJ0 "COMPACT_STRINGS" "Z" (.int 1) (fun q : Nat => s.heap.size ≤ q) s s.heap := va_Zof (hts (.laysStatic RJ0 "COMPACT_STRINGS" "Z") (gt_t3 (List.mem_of_getElem? (i := 107) (by exact rfl)))) (hts (.initialized RJ0) (gt_t1 (List.mem_of_getElem? (i := 16) (by exact rfl)))) (va_eqt (hs (.eq (.static "java/lang/String" "COMPACT_STRINGS" "Z") (.int 1)) (by decide +kernel))) hA
  have z4 : va_Zq RJ3 "SIOOBE_FORMATTER" "Ljava/util/function/BiFunction;" (fun q : Nat => s.heap.size ≤ q) s s.heap := va_Zqof (hts (.laysStatic RJ3 "SIOOBE_FORMATTER" "Ljava/util/function/BiFunction;") (gt_t3 (List.mem_of_getElem? (i := 123) (by exact rfl)))) (hts (.initialized RJ3) (gt_t1 (List.mem_of_getElem? (i := 18) (by exact rfl)))) (hs (.isRef (.static "jdk/internal/util/Preconditions" "SIOOBE_FORMATTER" "Ljava/util/function/BiFunction;")) (by decide +kernel)) hA
  obtain ⟨adK, adV, hS5, hev5⟩ := vk_Sof (args := #[Value.ref b]) (s := s) (N := 20) (tm := tmS) (len := lenS) (byt := bytS) (A := fun q : Nat => s.heap.size ≤ q) lenS_small (fun i hi => hs _ (fl_ex i hi)) (fun i hi => hs _ (fl_co i hi)) (fun i hi => hs _ (fl_ar i hi)) (fun i hi => hs _ (fl_le i hi)) (fun i hi j hj => hs _ (fl_el i hi j hj)) (fun i j hi hj hij => (fl_ne i hi j hj hij).imp (hs _) (hs _)) hA
  obtain ⟨-, -, -, s0, -, -, -, -, -, e0⟩ := Cond.stringRef_spec (args := #[Value.ref b]) (first := s) (o := none) (idx := []) h8 (hts (.stringRef RX8 22 "no such vat") (gt_t2 (List.mem_of_getElem? (i := 145) (by exact rfl))))
  obtain ⟨-, -, -, s1, -, -, -, -, -, e1⟩ := Cond.stringRef_spec (args := #[Value.ref b]) (first := s) (o := none) (idx := []) h9 (hts (.stringRef RX9 254 "out of range") (gt_t2 (List.mem_of_getElem? (i := 192) (by exact rfl))))
  obtain ⟨-, -, -, s2, -, -, -, -, -, e2⟩ := Cond.stringRef_spec (args := #[Value.ref b]) (first := s) (o := none) (idx := []) h9 (hts (.stringRef RX9 250 "no such cloth") (gt_t3 (List.mem_of_getElem? (i := 11) (by exact rfl))))
  obtain ⟨-, -, -, s3, -, -, -, -, -, e3⟩ := Cond.stringRef_spec (args := #[Value.ref b]) (first := s) (o := none) (idx := []) h9 (hts (.stringRef RX9 151 "no such what") (gt_t4 (List.mem_of_getElem? (i := 21) (by exact rfl))))
  obtain ⟨-, -, -, s4, -, -, -, -, -, e4⟩ := Cond.stringRef_spec (args := #[Value.ref b]) (first := s) (o := none) (idx := []) h9 (hts (.stringRef RX9 189 "no such dip") (gt_t4 (List.mem_of_getElem? (i := 148) (by exact rfl))))
  refine ⟨saf s0 s1 s2 s3 s4 adK adV, ⟨z1, z2⟩, ⟨vk_R.of (hts (.stringRef RX8 22 "no such vat") (gt_t2 (List.mem_of_getElem? (i := 145) (by exact rfl)))) e0, vk_R.of (hts (.stringRef RX9 254 "out of range") (gt_t2 (List.mem_of_getElem? (i := 192) (by exact rfl)))) e1, vk_R.of (hts (.stringRef RX9 250 "no such cloth") (gt_t3 (List.mem_of_getElem? (i := 11) (by exact rfl)))) e2, vk_R.of (hts (.stringRef RX9 151 "no such what") (gt_t4 (List.mem_of_getElem? (i := 21) (by exact rfl)))) e3, vk_R.of (hts (.stringRef RX9 189 "no such dip") (gt_t4 (List.mem_of_getElem? (i := 148) (by exact rfl)))) e4⟩, ⟨va_Nw.of rfl (hts (.castable NSE NSE) (gt_t2 (List.mem_of_getElem? (i := 107) (by exact rfl)))), va_Nw.of rfl (hts (.castable IAE IAE) (gt_t2 (List.mem_of_getElem? (i := 185) (by exact rfl)))), va_Nc.of (hs (.not (.castable IAE NSE)) (by decide +kernel))⟩, ⟨va_Nw.of rfl (hts (.declares (Bundle.initS "java/lang/RuntimeException")) (gt_t2 (List.mem_of_getElem? (i := 109) (by exact rfl)))), va_Nw.of rfl (hts (.declares (Bundle.initS "java/lang/Exception")) (gt_t2 (List.mem_of_getElem? (i := 111) (by exact rfl)))), va_Nw.of rfl (hts (.declares (Bundle.initS Bundle.tN)) (gt_t2 (List.mem_of_getElem? (i := 113) (by exact rfl))))⟩, ⟨va_AO.of (hts (.arrayOver (.object "VatHouse$Vat")) (gt_t1 (List.mem_of_getElem? (i := 37) (by exact rfl)))), va_AO.of (hts (.arrayOver (.object "VatHouse$Cloth")) (gt_t1 (List.mem_of_getElem? (i := 98) (by exact rfl)))), va_AO.of (hts (.arrayOver (.object "VatHouse$Recipe")) (gt_t1 (List.mem_of_getElem? (i := 162) (by exact rfl))))⟩, ⟨fun i hi => ?_, fun i j hi hj => ?_⟩, z3, z4, fun i q hq => ?_⟩
  · show va_O "java/lang/String" (saf s0 s1 s2 s3 s4 adK adV (5 + i)) _ _ _ ∧ va_OF "java/lang/String" "coder" "B" (.int 0) (saf s0 s1 s2 s3 s4 adK adV (5 + i)) _ _ _ ∧ va_OF "java/lang/String" "value" "[B" (.ref (saf s0 s1 s2 s3 s4 adK adV (25 + i))) (saf s0 s1 s2 s3 s4 adK adV (5 + i)) _ _ _ ∧ va_T .byte (saf s0 s1 s2 s3 s4 adK adV (25 + i)) _ _ _ _ _
    rw [saf_k hi, saf_v hi]
    exact hS5.1 i hi
  · show saf s0 s1 s2 s3 s4 adK adV (5 + i) = saf s0 s1 s2 s3 s4 adK adV (5 + j) → i = j
    rw [saf_k hi, saf_k hj]
    exact hS5.2 i j hi hj
  · match i, hq with
    | 0, hq => cases hq; exact vk_R.of (hts (.stringRef RX10 174 "dip") (gt_t6 (List.mem_of_getElem? (i := 2) (by exact rfl)))) (hev5 0 (by decide))
    | 1, hq => cases hq; exact vk_R.of (hts (.stringRef RX10 176 "air") (gt_t6 (List.mem_of_getElem? (i := 3) (by exact rfl)))) (hev5 1 (by decide))
    | 2, hq => cases hq; exact vk_R.of (hts (.stringRef RX10 178 "wash") (gt_t6 (List.mem_of_getElem? (i := 4) (by exact rfl)))) (hev5 2 (by decide))
    | 3, hq => cases hq; exact vk_R.of (hts (.stringRef RX10 180 "rest") (gt_t6 (List.mem_of_getElem? (i := 5) (by exact rfl)))) (hev5 3 (by decide))
    | 4, hq => cases hq; exact vk_R.of (hts (.stringRef RX10 182 "feed") (gt_t6 (List.mem_of_getElem? (i := 6) (by exact rfl)))) (hev5 4 (by decide))
    | 5, hq => cases hq; exact vk_R.of (hts (.stringRef RX10 184 "lime") (gt_t6 (List.mem_of_getElem? (i := 7) (by exact rfl)))) (hev5 5 (by decide))
    | 6, hq => cases hq; exact vk_R.of (hts (.stringRef RX10 186 "fail") (gt_t6 (List.mem_of_getElem? (i := 8) (by exact rfl)))) (hev5 6 (by decide))
    | 7, hq => cases hq; exact vk_R.of (hts (.stringRef RX10 188 "times") (gt_t6 (List.mem_of_getElem? (i := 9) (by exact rfl)))) (hev5 7 (by decide))
    | 8, hq => cases hq; exact vk_R.of (hts (.stringRef RX10 190 "until") (gt_t6 (List.mem_of_getElem? (i := 10) (by exact rfl)))) (hev5 8 (by decide))
    | 9, hq => cases hq; exact vk_R.of (hts (.stringRef RX10 192 "if") (gt_t6 (List.mem_of_getElem? (i := 11) (by exact rfl)))) (hev5 9 (by decide))
    | 10, hq => cases hq; exact vk_R.of (hts (.stringRef RX10 194 "try") (gt_t6 (List.mem_of_getElem? (i := 12) (by exact rfl)))) (hev5 10 (by decide))
    | 11, hq => cases hq; exact vk_R.of (hts (.stringRef RX10 196 "do") (gt_t6 (List.mem_of_getElem? (i := 13) (by exact rfl)))) (hev5 11 (by decide))
    | 12, hq => cases hq; exact vk_R.of (hts (.stringRef RX10 198 "last") (gt_t6 (List.mem_of_getElem? (i := 14) (by exact rfl)))) (hev5 12 (by decide))
    | 13, hq => cases hq; exact vk_R.of (hts (.stringRef RX10 200 "else") (gt_t6 (List.mem_of_getElem? (i := 15) (by exact rfl)))) (hev5 13 (by decide))
    | 14, hq => cases hq; exact vk_R.of (hts (.stringRef RX10 202 "shade") (gt_t6 (List.mem_of_getElem? (i := 16) (by exact rfl)))) (hev5 14 (by decide))
    | 15, hq => cases hq; exact vk_R.of (hts (.stringRef RX10 204 "loose") (gt_t6 (List.mem_of_getElem? (i := 17) (by exact rfl)))) (hev5 15 (by decide))
    | 16, hq => cases hq; exact vk_R.of (hts (.stringRef RX10 205 "hour") (gt_t6 (List.mem_of_getElem? (i := 18) (by exact rfl)))) (hev5 16 (by decide))
    | 17, hq => cases hq; exact vk_R.of (hts (.stringRef RX10 206 "grains") (gt_t6 (List.mem_of_getElem? (i := 19) (by exact rfl)))) (hev5 17 (by decide))
    | 18, hq => cases hq; exact vk_R.of (hts (.stringRef RX10 207 "food") (gt_t6 (List.mem_of_getElem? (i := 20) (by exact rfl)))) (hev5 18 (by decide))
    | 19, hq => cases hq; exact vk_R.of (hts (.stringRef RX6 77 "dip air wash rest feed lime fail times until if try do else last shade loose grains food hour ") (gt_t3 (List.mem_of_getElem? (i := 97) (by exact rfl)))) (hev5 19 (by decide))
    | n + 20, hq => cases hq

theorem arr_ty {U : State} {cA : ClassId} {t t2 : FieldType} (h : ArrOfT U cA t) (h2 : ArrOfT U cA t2) : t = t2 := by
  obtain ⟨-, k, g1, c1, g2⟩ := h 0 (fun _ => .null)
  obtain ⟨-, k2, f1, c2, f2⟩ := h2 0 (fun _ => .null)
  have e : some k = some k2 := g1.symm.trans f1
  cases e
  rw [g2] at f2
  cases f2
  rfl
theorem pl_of {A : Nat → Prop} {w : va_W} (hD : va_D A w) : ∃ f : Nat → va_E, va_pl (w.map (·.1)) f = w ∧ ∀ (k : Nat) (q : Nat × va_E), w[k]? = some q → f q.1 = q.2 := by
  classical
  have key : ∀ q : Nat × va_E, q ∈ w → ((w.find? (fun p => decide (p.1 = q.1))).map (·.2)).getD (.inr (0, [])) = q.2 := by
    intro q hq
    cases hf : w.find? (fun p => decide (p.1 = q.1)) with
    | none => exact absurd (List.find?_eq_none.mp hf q hq) (by simp)
    | some p =>
      have h1 : p.1 = q.1 := by simpa using List.find?_some hf
      have h2 := List.mem_of_find?_eq_some hf
      obtain ⟨i, hi⟩ := List.getElem?_of_mem h2
      obtain ⟨j, hj⟩ := List.getElem?_of_mem hq
      have := hD.1 i j p q hi hj h1
      subst this
      rw [hi] at hj
      cases hj
      rfl
  refine ⟨fun a => ((w.find? (fun p => decide (p.1 = a))).map (·.2)).getD (.inr (0, [])), ?_, fun k q hk => key q (List.mem_of_getElem? hk)⟩
  show (w.map (·.1)).map _ = w
  rw [List.map_map]
  conv => rhs; rw [← List.map_id w]
  exact List.map_congr_left fun q hq => Prod.ext rfl (key q hq)

noncomputable def hcs (x0 : Nat) (ad : Nat → Nat) (ca : Nat → ClassId) (fv fp : Nat → Option Nat) : va_W := [(x0, .inr (9, [.ref (ad 0), .ref (ad 8), .int 0, .int 0, .ref (ad 9), .int 0, .ref (ad 10), .ref (ad 15), .int 0, .ref (ad 16), .ref (ad 17)])), ((ad 0), .inr (8, [.ref (ad 1), .int 0, .int 0])), ((ad 1), .inl ((ca 1), 6, .inr (.inr (.inr (.inr fv))))), ((ad 2), .inr (7, [.int 0, .int 0, .int 0, .int 0, .int 2, .int 0, .int 0, .int (-2)])), ((ad 3), .inr (7, [.int 1, .int 0, .int 0, .int 0, .int 2, .int 0, .int 0, .int (-2)])), ((ad 4), .inr (7, [.int 2, .int 0, .int 0, .int 0, .int 2, .int 0, .int 0, .int (-2)])), ((ad 5), .inr (7, [.int 3, .int 0, .int 0, .int 0, .int 2, .int 0, .int 0, .int (-2)])), ((ad 6), .inr (7, [.int 4, .int 0, .int 0, .int 0, .int 2, .int 0, .int 0, .int (-2)])), ((ad 7), .inr (7, [.int 5, .int 0, .int 0, .int 0, .int 2, .int 0, .int 0, .int (-2)])), ((ad 8), .inl ((ca 8), 30, .inr (.inr (.inr (.inr (fun _ => none)))))), ((ad 9), .inl ((ca 9), 1500, .inl (fun _ => 0))), ((ad 10), .inr (2, [.ref (ad 11), .int 0, .int 0, .int 0, .int (-1), .int 0])), ((ad 11), .inr (6, [.ref (ad 9), .int 0, .int 0, .int 0, .ref (ad 12), .ref (ad 13), .ref (ad 14)])), ((ad 12), .inl ((ca 12), 1501, .inl (fun _ => 0))), ((ad 13), .inl ((ca 13), 1501, .inl (fun _ => 0))), ((ad 14), .inl ((ca 14), 1501, .inl (fun _ => 0))), ((ad 15), .inl ((ca 15), 8, .inr (.inr (.inr (.inr (fun _ => none)))))), ((ad 16), .inr (4, [.ref (ad 0), .int 0, .int (-1), .int 0, .int 0, .int 0, .int 0, .int 0])), ((ad 17), .inr (1, [.ref (ad 0), .ref (ad 18), .ref (ad 25), .int 0, .int 0, .int 0, .ref (ad 26), .ref (ad 27), .ref (ad 28)])), ((ad 18), .inl ((ca 18), 6, .inr (.inr (.inr (.inr fp))))), ((ad 19), .inr (7, [.int 0, .int 0, .int 0, .int 0, .int 2, .int 0, .int 0, .int (-2)])), ((ad 20), .inr (7, [.int 1, .int 0, .int 0, .int 0, .int 2, .int 0, .int 0, .int (-2)])), ((ad 21), .inr (7, [.int 2, .int 0, .int 0, .int 0, .int 2, .int 0, .int 0, .int (-2)])), ((ad 22), .inr (7, [.int 3, .int 0, .int 0, .int 0, .int 2, .int 0, .int 0, .int (-2)])), ((ad 23), .inr (7, [.int 4, .int 0, .int 0, .int 0, .int 2, .int 0, .int 0, .int (-2)])), ((ad 24), .inr (7, [.int 5, .int 0, .int 0, .int 0, .int 2, .int 0, .int 0, .int (-2)])), ((ad 25), .inr (0, [.int 0, .int 1, .int 0, .int 0, .int 0, .int (-1), .int 0, .int 0])), ((ad 26), .inl ((ca 26), 3, .inl (fun _ => 0))), ((ad 27), .inl ((ca 27), 3, .inl (fun _ => 0))), ((ad 28), .inl ((ca 28), 3, .inl (fun _ => 0)))]
noncomputable def hgf (ca : Nat → ClassId) : Nat → Nat := fun k => match k with | 0 => ca 12 | 1 => ca 9 | 2 => ca 1 | 3 => ca 8 | 4 => ca 15 | 5 => ca 13 | 6 => ca 14 | 7 => ca 26 | 8 => ca 27 | 9 => ca 28 | _ => ca 18

noncomputable def mi0 : Nat → Int32 := fun k => match k with | 24 => -1 | 44 => -1 | _ => 0
noncomputable def ma0 (fs fd ff : Nat → Int32) : Nat → Nat → Int32 := fun k => match k with | 7 => fs | 16 => fd | 34 => ff | _ => fun _ => 0
theorem VR_new {L : List Nat} {f : Nat → va_E} {b k : Nat} {s : AS} (hm : b ∈ L) (hf : f b = .inr (7, [.int (nI k), .int 0, .int 0, .int 0, .int 2, .int 0, .int 0, .int (-2)])) (h1 : s.1 1 = 0) (h4 : s.2 4 k = 0) (h5 : s.2 5 k = 0) (h6 : s.2 6 k = 0) (h7 : s.2 7 k = 2) (h8 : s.2 8 k = 0) (h9 : s.2 9 k = 0) (h10 : s.2 10 k = 0) (h11 : s.2 11 k = 0) : VR L f b k s := by
  have r : ∀ j : Nat, rd f b j = [Value.int (nI k), .int 0, .int 0, .int 0, .int 2, .int 0, .int 0, .int (-2)].getD j .null := fun j => by unfold rd; rw [hf]
  unfold VR
  rw [h4, h5, h6, h7, h8, h9, h10, h11, h1]
  exact ⟨⟨hm, by rw [hf]; rfl⟩, r 0, r 1, r 2, r 3, r 4, r 5, r 6, -2, r 7, by unfold LD; decide⟩
theorem GI_new {fs fd ff : Nat → Int32} (hfd : ∀ k, k < 30 → fd k = -1) : GI 0 (mi0, ma0 fs fd ff) := by
  have e0 : (0 : Int32).toInt = 0 := by decide
  refine ⟨⟨fun k _ => ?_, ⟨?_, fun k hk => ?_⟩, ?_, ?_⟩, fun k _ h2 => ⟨rfl, rfl, hfd k h2, rfl, rfl⟩, fun k _ => Or.inl rfl⟩
  · show (0 ≤ (0 : Int32).toInt ∧ (0 : Int32).toInt ≤ 1000000) ∧ (0 ≤ (0 : Int32).toInt ∧ (0 : Int32).toInt ≤ 1000)
    omega
  · show 0 ≤ (0 : Int32).toInt ∧ (0 : Int32).toInt ≤ 30
    omega
  · have hk : (k : Int) < (0 : Int32).toInt := hk
    omega
  · show 0 ≤ (0 : Int32).toInt
    omega
  · show (0 : Int32).toInt ≤ 0
    omega

set_option maxHeartbeats 4000000 in
set_option maxRecDepth 100000 in
theorem house_TP {x0 : Nat} {ad : Nat → Nat} {ca : Nat → ClassId} {fv fp : Nat → Option Nat} {f : Nat → va_E} {fs fd ff : Nat → Int32} (hfv : ∀ k, k < 6 → fv k = some (ad (2 + k))) (hfp : ∀ k, k < 6 → fp k = some (ad (19 + k))) (hgd : gd (hgf ca)) (hf : ∀ (k : Nat) (q : Nat × va_E), (hcs x0 ad ca fv fp)[k]? = some q → f q.1 = q.2) (hdd : ad 12 ≠ ad 13 ∧ ad 12 ≠ ad 14 ∧ ad 13 ≠ ad 14) (hfs : ∀ k, k < 6 → fs k = 2) (hds : ∀ k : Nat, k < 6 → ad (2 + k) ∉ [ad (19 + 0), ad (19 + 1), ad (19 + 2), ad (19 + 3), ad (19 + 4), ad (19 + 5)]) : TP (hgf ca) [x0, (ad 0), (ad 1), (ad 2), (ad 3), (ad 4), (ad 5), (ad 6), (ad 7), (ad 8), (ad 9), (ad 10), (ad 11), (ad 12), (ad 13), (ad 14), (ad 15), (ad 16), (ad 17), (ad 18), (ad 19), (ad 20), (ad 21), (ad 22), (ad 23), (ad 24), (ad 25), (ad 26), (ad 27), (ad 28)] f (RLX (hgf ca) ((x0, ad 10, ad 11, ad 9, ad 12, ad 13, ad 14), (ad 0, ad 1, ad 8, ad 16, fun k => ad (2 + k)), (ad 17, ad 18, ad 25, fun k => ad (19 + k)), ad 15)) ∧ RF (x0, ad 10, ad 11, ad 9, ad 12, ad 13, ad 14) f ∧ CN (x0, ad 10, ad 11, ad 9, ad 12, ad 13, ad 14) f 0 0 (-1) (fun _ => 0) ∧ SR (hgf ca) [x0, (ad 0), (ad 1), (ad 2), (ad 3), (ad 4), (ad 5), (ad 6), (ad 7), (ad 8), (ad 9), (ad 10), (ad 11), (ad 12), (ad 13), (ad 14), (ad 15), (ad 16), (ad 17), (ad 18), (ad 19), (ad 20), (ad 21), (ad 22), (ad 23), (ad 24), (ad 25), (ad 26), (ad 27), (ad 28)] f (x0, ad 0, ad 1, ad 8, ad 16, fun k => ad (2 + k)) (mi0, ma0 fs fd ff) ∧ rd f x0 7 = .ref (ad 15) ∧ PLf f x0 (ad 8) (ad 0) (fun k => ad (2 + k)) (ad 17) (ad 18) (ad 25) (fun k => ad (19 + k)) ∧ ∀ r : Nat, ra f (ad 15) r = none := by
  have hf0 : f x0 = .inr (9, [.ref (ad 0), .ref (ad 8), .int 0, .int 0, .ref (ad 9), .int 0, .ref (ad 10), .ref (ad 15), .int 0, .ref (ad 16), .ref (ad 17)]) := hf 0 _ rfl
  have hf1 : f (ad 0) = .inr (8, [.ref (ad 1), .int 0, .int 0]) := hf 1 _ rfl
  have hf2 : f (ad 1) = .inl ((ca 1), 6, .inr (.inr (.inr (.inr fv)))) := hf 2 _ rfl
  have hf3 : f (ad 2) = .inr (7, [.int 0, .int 0, .int 0, .int 0, .int 2, .int 0, .int 0, .int (-2)]) := hf 3 _ rfl
  have hf4 : f (ad 3) = .inr (7, [.int 1, .int 0, .int 0, .int 0, .int 2, .int 0, .int 0, .int (-2)]) := hf 4 _ rfl
  have hf5 : f (ad 4) = .inr (7, [.int 2, .int 0, .int 0, .int 0, .int 2, .int 0, .int 0, .int (-2)]) := hf 5 _ rfl
  have hf6 : f (ad 5) = .inr (7, [.int 3, .int 0, .int 0, .int 0, .int 2, .int 0, .int 0, .int (-2)]) := hf 6 _ rfl
  have hf7 : f (ad 6) = .inr (7, [.int 4, .int 0, .int 0, .int 0, .int 2, .int 0, .int 0, .int (-2)]) := hf 7 _ rfl
  have hf8 : f (ad 7) = .inr (7, [.int 5, .int 0, .int 0, .int 0, .int 2, .int 0, .int 0, .int (-2)]) := hf 8 _ rfl
  have hf9 : f (ad 8) = .inl ((ca 8), 30, .inr (.inr (.inr (.inr (fun _ => none))))) := hf 9 _ rfl
  have hf10 : f (ad 9) = .inl ((ca 9), 1500, .inl (fun _ => 0)) := hf 10 _ rfl
  have hf11 : f (ad 10) = .inr (2, [.ref (ad 11), .int 0, .int 0, .int 0, .int (-1), .int 0]) := hf 11 _ rfl
  have hf12 : f (ad 11) = .inr (6, [.ref (ad 9), .int 0, .int 0, .int 0, .ref (ad 12), .ref (ad 13), .ref (ad 14)]) := hf 12 _ rfl
  have hf13 : f (ad 12) = .inl ((ca 12), 1501, .inl (fun _ => 0)) := hf 13 _ rfl
  have hf14 : f (ad 13) = .inl ((ca 13), 1501, .inl (fun _ => 0)) := hf 14 _ rfl
  have hf15 : f (ad 14) = .inl ((ca 14), 1501, .inl (fun _ => 0)) := hf 15 _ rfl
  have hf16 : f (ad 15) = .inl ((ca 15), 8, .inr (.inr (.inr (.inr (fun _ => none))))) := hf 16 _ rfl
  have hf17 : f (ad 16) = .inr (4, [.ref (ad 0), .int 0, .int (-1), .int 0, .int 0, .int 0, .int 0, .int 0]) := hf 17 _ rfl
  have hf18 : f (ad 17) = .inr (1, [.ref (ad 0), .ref (ad 18), .ref (ad 25), .int 0, .int 0, .int 0, .ref (ad 26), .ref (ad 27), .ref (ad 28)]) := hf 18 _ rfl
  have hf19 : f (ad 18) = .inl ((ca 18), 6, .inr (.inr (.inr (.inr fp)))) := hf 19 _ rfl
  have hf20 : f (ad 19) = .inr (7, [.int 0, .int 0, .int 0, .int 0, .int 2, .int 0, .int 0, .int (-2)]) := hf 20 _ rfl
  have hf21 : f (ad 20) = .inr (7, [.int 1, .int 0, .int 0, .int 0, .int 2, .int 0, .int 0, .int (-2)]) := hf 21 _ rfl
  have hf22 : f (ad 21) = .inr (7, [.int 2, .int 0, .int 0, .int 0, .int 2, .int 0, .int 0, .int (-2)]) := hf 22 _ rfl
  have hf23 : f (ad 22) = .inr (7, [.int 3, .int 0, .int 0, .int 0, .int 2, .int 0, .int 0, .int (-2)]) := hf 23 _ rfl
  have hf24 : f (ad 23) = .inr (7, [.int 4, .int 0, .int 0, .int 0, .int 2, .int 0, .int 0, .int (-2)]) := hf 24 _ rfl
  have hf25 : f (ad 24) = .inr (7, [.int 5, .int 0, .int 0, .int 0, .int 2, .int 0, .int 0, .int (-2)]) := hf 25 _ rfl
  have hf26 : f (ad 25) = .inr (0, [.int 0, .int 1, .int 0, .int 0, .int 0, .int (-1), .int 0, .int 0]) := hf 26 _ rfl
  have hf27 : f (ad 26) = .inl ((ca 26), 3, .inl (fun _ => 0)) := hf 27 _ rfl
  have hf28 : f (ad 27) = .inl ((ca 27), 3, .inl (fun _ => 0)) := hf 28 _ rfl
  have hf29 : f (ad 28) = .inl ((ca 28), 3, .inl (fun _ => 0)) := hf 29 _ rfl
  refine ⟨⟨⟨hgd, fun a ha => ?_⟩, fun q hq => ?_⟩, ⟨⟨by simp [rd, hf0], by simp [rd, hf0], by simp [rd, hf11], by simp [rd, hf12], by simp [rd, hf12], by simp [rd, hf12], by simp [rd, hf12]⟩, hdd⟩, ⟨by simp [rd, hf0], by simp [rd, hf11], by simp [rd, hf11], by simp [ia, hf10]⟩, ⟨⟨⟨⟨List.mem_of_getElem? (i := 0) rfl, by rw [hf0]; rfl⟩, ⟨List.mem_of_getElem? (i := 1) rfl, by rw [hf1]; rfl⟩, ⟨List.mem_of_getElem? (i := 2) rfl, by rw [hf2]; rfl⟩, ⟨List.mem_of_getElem? (i := 9) rfl, by rw [hf9]; rfl⟩, ⟨List.mem_of_getElem? (i := 17) rfl, by rw [hf17]; rfl⟩⟩, (by unfold rd; rw [hf0]; rfl), (by unfold rd; rw [hf0]; rfl), (by unfold rd; rw [hf0]; rfl), (by unfold rd; rw [hf1]; rfl), (by unfold rd; rw [hf17]; rfl)⟩, fun k hk => ?_, fun k hk => ?_, ⟨(by unfold rd; rw [hf1]; rfl), (by unfold rd; rw [hf1]; rfl)⟩, ⟨(by unfold rd; rw [hf0]; rfl), (by unfold rd; rw [hf0]; rfl), (by unfold rd; rw [hf0]; rfl)⟩, ⟨(by unfold rd; rw [hf17]; rfl), (by unfold rd; rw [hf17]; rfl), (by unfold rd; rw [hf17]; rfl), (by unfold rd; rw [hf17]; rfl), (by unfold rd; rw [hf17]; rfl), (by unfold rd; rw [hf17]; rfl), (by unfold rd; rw [hf17]; rfl)⟩⟩, (by unfold rd; rw [hf0]; rfl), ⟨⟨(by unfold rd; rw [hf0]; rfl), (by unfold rd; rw [hf18]; rfl), (by unfold rd; rw [hf18]; rfl), (by unfold rd; rw [hf18]; rfl)⟩, fun k hk => ?_, hds, fun k => ?_⟩, fun r => ?_⟩
  · simp only [List.mem_cons, List.not_mem_nil, or_false] at ha
    rcases ha with rfl | rfl | rfl | rfl | rfl | rfl | rfl | rfl | rfl | rfl | rfl | rfl | rfl | rfl | rfl | rfl | rfl | rfl | rfl | rfl | rfl | rfl | rfl | rfl | rfl | rfl | rfl | rfl | rfl | rfl
    · rw [hf0]; exact ⟨rfl, fun k t v h1 h2 => by match k, h1, h2 with | 0, h1, h2 => cases h1; cases h2; exact ⟨(ad 0), rfl, List.mem_of_getElem? (i := 1) rfl, by rw [hf1]; rfl⟩ | 1, h1, h2 => cases h1; cases h2; exact ⟨(ad 8), rfl, List.mem_of_getElem? (i := 9) rfl, by rw [hf9]; rfl⟩ | 2, h1, h2 => cases h1; cases h2; exact ⟨_, rfl⟩ | 3, h1, h2 => cases h1; cases h2; exact ⟨_, rfl⟩ | 4, h1, h2 => cases h1; cases h2; exact ⟨(ad 9), rfl, List.mem_of_getElem? (i := 10) rfl, by rw [hf10]; rfl⟩ | 5, h1, h2 => cases h1; cases h2; exact ⟨_, rfl⟩ | 6, h1, h2 => cases h1; cases h2; exact ⟨(ad 10), rfl, List.mem_of_getElem? (i := 11) rfl, by rw [hf11]; rfl⟩ | 7, h1, h2 => cases h1; cases h2; exact ⟨(ad 15), rfl, List.mem_of_getElem? (i := 16) rfl, by rw [hf16]; rfl⟩ | 8, h1, h2 => cases h1; cases h2; exact ⟨_, rfl⟩ | 9, h1, h2 => cases h1; cases h2; exact ⟨(ad 16), rfl, List.mem_of_getElem? (i := 17) rfl, by rw [hf17]; rfl⟩ | 10, h1, h2 => cases h1; cases h2; exact ⟨(ad 17), rfl, List.mem_of_getElem? (i := 18) rfl, by rw [hf18]; rfl⟩ | n + 11, h1, h2 => cases h1⟩
    · rw [hf1]; exact ⟨rfl, fun k t v h1 h2 => by match k, h1, h2 with | 0, h1, h2 => cases h1; cases h2; exact ⟨(ad 1), rfl, List.mem_of_getElem? (i := 2) rfl, by rw [hf2]; rfl⟩ | 1, h1, h2 => cases h1; cases h2; exact ⟨_, rfl⟩ | 2, h1, h2 => cases h1; cases h2; exact ⟨_, rfl⟩ | n + 3, h1, h2 => cases h1⟩
    · rw [hf2]; exact ⟨fun _ i hi => by match i, hi with | 0, _ => exact Or.inr ⟨(ad 2), hfv 0 (by decide), List.mem_of_getElem? (i := 3) rfl, by rw [hf3]; rfl⟩ | 1, _ => exact Or.inr ⟨(ad 3), hfv 1 (by decide), List.mem_of_getElem? (i := 4) rfl, by rw [hf4]; rfl⟩ | 2, _ => exact Or.inr ⟨(ad 4), hfv 2 (by decide), List.mem_of_getElem? (i := 5) rfl, by rw [hf5]; rfl⟩ | 3, _ => exact Or.inr ⟨(ad 5), hfv 3 (by decide), List.mem_of_getElem? (i := 6) rfl, by rw [hf6]; rfl⟩ | 4, _ => exact Or.inr ⟨(ad 6), hfv 4 (by decide), List.mem_of_getElem? (i := 7) rfl, by rw [hf7]; rfl⟩ | 5, _ => exact Or.inr ⟨(ad 7), hfv 5 (by decide), List.mem_of_getElem? (i := 8) rfl, by rw [hf8]; rfl⟩ | n + 6, h => exact absurd h (by omega), fun e => absurd e hgd.1, fun e => absurd e hgd.2.1⟩
    · rw [hf3]; exact ⟨rfl, fun k t v h1 h2 => by match k, h1, h2 with | 0, h1, h2 => cases h1; cases h2; exact ⟨_, rfl⟩ | 1, h1, h2 => cases h1; cases h2; exact ⟨_, rfl⟩ | 2, h1, h2 => cases h1; cases h2; exact ⟨_, rfl⟩ | 3, h1, h2 => cases h1; cases h2; exact ⟨_, rfl⟩ | 4, h1, h2 => cases h1; cases h2; exact ⟨_, rfl⟩ | 5, h1, h2 => cases h1; cases h2; exact ⟨_, rfl⟩ | 6, h1, h2 => cases h1; cases h2; exact ⟨_, rfl⟩ | 7, h1, h2 => cases h1; cases h2; exact ⟨_, rfl⟩ | n + 8, h1, h2 => cases h1⟩
    · rw [hf4]; exact ⟨rfl, fun k t v h1 h2 => by match k, h1, h2 with | 0, h1, h2 => cases h1; cases h2; exact ⟨_, rfl⟩ | 1, h1, h2 => cases h1; cases h2; exact ⟨_, rfl⟩ | 2, h1, h2 => cases h1; cases h2; exact ⟨_, rfl⟩ | 3, h1, h2 => cases h1; cases h2; exact ⟨_, rfl⟩ | 4, h1, h2 => cases h1; cases h2; exact ⟨_, rfl⟩ | 5, h1, h2 => cases h1; cases h2; exact ⟨_, rfl⟩ | 6, h1, h2 => cases h1; cases h2; exact ⟨_, rfl⟩ | 7, h1, h2 => cases h1; cases h2; exact ⟨_, rfl⟩ | n + 8, h1, h2 => cases h1⟩
    · rw [hf5]; exact ⟨rfl, fun k t v h1 h2 => by match k, h1, h2 with | 0, h1, h2 => cases h1; cases h2; exact ⟨_, rfl⟩ | 1, h1, h2 => cases h1; cases h2; exact ⟨_, rfl⟩ | 2, h1, h2 => cases h1; cases h2; exact ⟨_, rfl⟩ | 3, h1, h2 => cases h1; cases h2; exact ⟨_, rfl⟩ | 4, h1, h2 => cases h1; cases h2; exact ⟨_, rfl⟩ | 5, h1, h2 => cases h1; cases h2; exact ⟨_, rfl⟩ | 6, h1, h2 => cases h1; cases h2; exact ⟨_, rfl⟩ | 7, h1, h2 => cases h1; cases h2; exact ⟨_, rfl⟩ | n + 8, h1, h2 => cases h1⟩
    · rw [hf6]; exact ⟨rfl, fun k t v h1 h2 => by match k, h1, h2 with | 0, h1, h2 => cases h1; cases h2; exact ⟨_, rfl⟩ | 1, h1, h2 => cases h1; cases h2; exact ⟨_, rfl⟩ | 2, h1, h2 => cases h1; cases h2; exact ⟨_, rfl⟩ | 3, h1, h2 => cases h1; cases h2; exact ⟨_, rfl⟩ | 4, h1, h2 => cases h1; cases h2; exact ⟨_, rfl⟩ | 5, h1, h2 => cases h1; cases h2; exact ⟨_, rfl⟩ | 6, h1, h2 => cases h1; cases h2; exact ⟨_, rfl⟩ | 7, h1, h2 => cases h1; cases h2; exact ⟨_, rfl⟩ | n + 8, h1, h2 => cases h1⟩
    · rw [hf7]; exact ⟨rfl, fun k t v h1 h2 => by match k, h1, h2 with | 0, h1, h2 => cases h1; cases h2; exact ⟨_, rfl⟩ | 1, h1, h2 => cases h1; cases h2; exact ⟨_, rfl⟩ | 2, h1, h2 => cases h1; cases h2; exact ⟨_, rfl⟩ | 3, h1, h2 => cases h1; cases h2; exact ⟨_, rfl⟩ | 4, h1, h2 => cases h1; cases h2; exact ⟨_, rfl⟩ | 5, h1, h2 => cases h1; cases h2; exact ⟨_, rfl⟩ | 6, h1, h2 => cases h1; cases h2; exact ⟨_, rfl⟩ | 7, h1, h2 => cases h1; cases h2; exact ⟨_, rfl⟩ | n + 8, h1, h2 => cases h1⟩
    · rw [hf8]; exact ⟨rfl, fun k t v h1 h2 => by match k, h1, h2 with | 0, h1, h2 => cases h1; cases h2; exact ⟨_, rfl⟩ | 1, h1, h2 => cases h1; cases h2; exact ⟨_, rfl⟩ | 2, h1, h2 => cases h1; cases h2; exact ⟨_, rfl⟩ | 3, h1, h2 => cases h1; cases h2; exact ⟨_, rfl⟩ | 4, h1, h2 => cases h1; cases h2; exact ⟨_, rfl⟩ | 5, h1, h2 => cases h1; cases h2; exact ⟨_, rfl⟩ | 6, h1, h2 => cases h1; cases h2; exact ⟨_, rfl⟩ | 7, h1, h2 => cases h1; cases h2; exact ⟨_, rfl⟩ | n + 8, h1, h2 => cases h1⟩
    · rw [hf9]; exact ⟨fun e => absurd e (by rintro (e | e); exact hgd.1 e.symm; exact hgd.2.2.2.1 e.symm), fun _ i hi => Or.inl ⟨rfl, rfl⟩, fun e => absurd e hgd.2.2.1⟩
    · rw [hf10]; exact trivial
    · rw [hf11]; exact ⟨rfl, fun k t v h1 h2 => by match k, h1, h2 with | 0, h1, h2 => cases h1; cases h2; exact ⟨(ad 11), rfl, List.mem_of_getElem? (i := 12) rfl, by rw [hf12]; rfl⟩ | 1, h1, h2 => cases h1; cases h2; exact ⟨_, rfl⟩ | 2, h1, h2 => cases h1; cases h2; exact ⟨_, rfl⟩ | 3, h1, h2 => cases h1; cases h2; exact ⟨_, rfl⟩ | 4, h1, h2 => cases h1; cases h2; exact ⟨_, rfl⟩ | 5, h1, h2 => cases h1; cases h2; exact ⟨_, rfl⟩ | n + 6, h1, h2 => cases h1⟩
    · rw [hf12]; exact ⟨rfl, fun k t v h1 h2 => by match k, h1, h2 with | 0, h1, h2 => cases h1; cases h2; exact ⟨(ad 9), rfl, List.mem_of_getElem? (i := 10) rfl, by rw [hf10]; rfl⟩ | 1, h1, h2 => cases h1; cases h2; exact ⟨_, rfl⟩ | 2, h1, h2 => cases h1; cases h2; exact ⟨_, rfl⟩ | 3, h1, h2 => cases h1; cases h2; exact ⟨_, rfl⟩ | 4, h1, h2 => cases h1; cases h2; exact ⟨(ad 12), rfl, List.mem_of_getElem? (i := 13) rfl, by rw [hf13]; rfl⟩ | 5, h1, h2 => cases h1; cases h2; exact ⟨(ad 13), rfl, List.mem_of_getElem? (i := 14) rfl, by rw [hf14]; rfl⟩ | 6, h1, h2 => cases h1; cases h2; exact ⟨(ad 14), rfl, List.mem_of_getElem? (i := 15) rfl, by rw [hf15]; rfl⟩ | n + 7, h1, h2 => cases h1⟩
    · rw [hf13]; exact trivial
    · rw [hf14]; exact trivial
    · rw [hf15]; exact trivial
    · rw [hf16]; exact ⟨fun e => absurd e (by rintro (e | e); exact hgd.2.1 e.symm; exact hgd.2.2.2.2 e.symm), fun e => absurd e.symm hgd.2.2.1, fun _ i hi => Or.inl ⟨rfl, rfl⟩⟩
    · rw [hf17]; exact ⟨rfl, fun k t v h1 h2 => by match k, h1, h2 with | 0, h1, h2 => cases h1; cases h2; exact ⟨(ad 0), rfl, List.mem_of_getElem? (i := 1) rfl, by rw [hf1]; rfl⟩ | 1, h1, h2 => cases h1; cases h2; exact ⟨_, rfl⟩ | 2, h1, h2 => cases h1; cases h2; exact ⟨_, rfl⟩ | 3, h1, h2 => cases h1; cases h2; exact ⟨_, rfl⟩ | 4, h1, h2 => cases h1; cases h2; exact ⟨_, rfl⟩ | 5, h1, h2 => cases h1; cases h2; exact ⟨_, rfl⟩ | 6, h1, h2 => cases h1; cases h2; exact ⟨_, rfl⟩ | 7, h1, h2 => cases h1; cases h2; exact ⟨_, rfl⟩ | n + 8, h1, h2 => cases h1⟩
    · rw [hf18]; exact ⟨rfl, fun k t v h1 h2 => by match k, h1, h2 with | 0, h1, h2 => cases h1; cases h2; exact ⟨(ad 0), rfl, List.mem_of_getElem? (i := 1) rfl, by rw [hf1]; rfl⟩ | 1, h1, h2 => cases h1; cases h2; exact ⟨(ad 18), rfl, List.mem_of_getElem? (i := 19) rfl, by rw [hf19]; rfl⟩ | 2, h1, h2 => cases h1; cases h2; exact ⟨(ad 25), rfl, List.mem_of_getElem? (i := 26) rfl, by rw [hf26]; rfl⟩ | 3, h1, h2 => cases h1; cases h2; exact ⟨_, rfl⟩ | 4, h1, h2 => cases h1; cases h2; exact ⟨_, rfl⟩ | 5, h1, h2 => cases h1; cases h2; exact ⟨_, rfl⟩ | 6, h1, h2 => cases h1; cases h2; exact ⟨(ad 26), rfl, List.mem_of_getElem? (i := 27) rfl, by rw [hf27]; rfl⟩ | 7, h1, h2 => cases h1; cases h2; exact ⟨(ad 27), rfl, List.mem_of_getElem? (i := 28) rfl, by rw [hf28]; rfl⟩ | 8, h1, h2 => cases h1; cases h2; exact ⟨(ad 28), rfl, List.mem_of_getElem? (i := 29) rfl, by rw [hf29]; rfl⟩ | n + 9, h1, h2 => cases h1⟩
    · rw [hf19]; exact ⟨fun _ i hi => by match i, hi with | 0, _ => exact Or.inr ⟨(ad 19), hfp 0 (by decide), List.mem_of_getElem? (i := 20) rfl, by rw [hf20]; rfl⟩ | 1, _ => exact Or.inr ⟨(ad 20), hfp 1 (by decide), List.mem_of_getElem? (i := 21) rfl, by rw [hf21]; rfl⟩ | 2, _ => exact Or.inr ⟨(ad 21), hfp 2 (by decide), List.mem_of_getElem? (i := 22) rfl, by rw [hf22]; rfl⟩ | 3, _ => exact Or.inr ⟨(ad 22), hfp 3 (by decide), List.mem_of_getElem? (i := 23) rfl, by rw [hf23]; rfl⟩ | 4, _ => exact Or.inr ⟨(ad 23), hfp 4 (by decide), List.mem_of_getElem? (i := 24) rfl, by rw [hf24]; rfl⟩ | 5, _ => exact Or.inr ⟨(ad 24), hfp 5 (by decide), List.mem_of_getElem? (i := 25) rfl, by rw [hf25]; rfl⟩ | n + 6, h => exact absurd h (by omega), fun e => absurd e hgd.2.2.2.1, fun e => absurd e hgd.2.2.2.2⟩
    · rw [hf20]; exact ⟨rfl, fun k t v h1 h2 => by match k, h1, h2 with | 0, h1, h2 => cases h1; cases h2; exact ⟨_, rfl⟩ | 1, h1, h2 => cases h1; cases h2; exact ⟨_, rfl⟩ | 2, h1, h2 => cases h1; cases h2; exact ⟨_, rfl⟩ | 3, h1, h2 => cases h1; cases h2; exact ⟨_, rfl⟩ | 4, h1, h2 => cases h1; cases h2; exact ⟨_, rfl⟩ | 5, h1, h2 => cases h1; cases h2; exact ⟨_, rfl⟩ | 6, h1, h2 => cases h1; cases h2; exact ⟨_, rfl⟩ | 7, h1, h2 => cases h1; cases h2; exact ⟨_, rfl⟩ | n + 8, h1, h2 => cases h1⟩
    · rw [hf21]; exact ⟨rfl, fun k t v h1 h2 => by match k, h1, h2 with | 0, h1, h2 => cases h1; cases h2; exact ⟨_, rfl⟩ | 1, h1, h2 => cases h1; cases h2; exact ⟨_, rfl⟩ | 2, h1, h2 => cases h1; cases h2; exact ⟨_, rfl⟩ | 3, h1, h2 => cases h1; cases h2; exact ⟨_, rfl⟩ | 4, h1, h2 => cases h1; cases h2; exact ⟨_, rfl⟩ | 5, h1, h2 => cases h1; cases h2; exact ⟨_, rfl⟩ | 6, h1, h2 => cases h1; cases h2; exact ⟨_, rfl⟩ | 7, h1, h2 => cases h1; cases h2; exact ⟨_, rfl⟩ | n + 8, h1, h2 => cases h1⟩
    · rw [hf22]; exact ⟨rfl, fun k t v h1 h2 => by match k, h1, h2 with | 0, h1, h2 => cases h1; cases h2; exact ⟨_, rfl⟩ | 1, h1, h2 => cases h1; cases h2; exact ⟨_, rfl⟩ | 2, h1, h2 => cases h1; cases h2; exact ⟨_, rfl⟩ | 3, h1, h2 => cases h1; cases h2; exact ⟨_, rfl⟩ | 4, h1, h2 => cases h1; cases h2; exact ⟨_, rfl⟩ | 5, h1, h2 => cases h1; cases h2; exact ⟨_, rfl⟩ | 6, h1, h2 => cases h1; cases h2; exact ⟨_, rfl⟩ | 7, h1, h2 => cases h1; cases h2; exact ⟨_, rfl⟩ | n + 8, h1, h2 => cases h1⟩
    · rw [hf23]; exact ⟨rfl, fun k t v h1 h2 => by match k, h1, h2 with | 0, h1, h2 => cases h1; cases h2; exact ⟨_, rfl⟩ | 1, h1, h2 => cases h1; cases h2; exact ⟨_, rfl⟩ | 2, h1, h2 => cases h1; cases h2; exact ⟨_, rfl⟩ | 3, h1, h2 => cases h1; cases h2; exact ⟨_, rfl⟩ | 4, h1, h2 => cases h1; cases h2; exact ⟨_, rfl⟩ | 5, h1, h2 => cases h1; cases h2; exact ⟨_, rfl⟩ | 6, h1, h2 => cases h1; cases h2; exact ⟨_, rfl⟩ | 7, h1, h2 => cases h1; cases h2; exact ⟨_, rfl⟩ | n + 8, h1, h2 => cases h1⟩
    · rw [hf24]; exact ⟨rfl, fun k t v h1 h2 => by match k, h1, h2 with | 0, h1, h2 => cases h1; cases h2; exact ⟨_, rfl⟩ | 1, h1, h2 => cases h1; cases h2; exact ⟨_, rfl⟩ | 2, h1, h2 => cases h1; cases h2; exact ⟨_, rfl⟩ | 3, h1, h2 => cases h1; cases h2; exact ⟨_, rfl⟩ | 4, h1, h2 => cases h1; cases h2; exact ⟨_, rfl⟩ | 5, h1, h2 => cases h1; cases h2; exact ⟨_, rfl⟩ | 6, h1, h2 => cases h1; cases h2; exact ⟨_, rfl⟩ | 7, h1, h2 => cases h1; cases h2; exact ⟨_, rfl⟩ | n + 8, h1, h2 => cases h1⟩
    · rw [hf25]; exact ⟨rfl, fun k t v h1 h2 => by match k, h1, h2 with | 0, h1, h2 => cases h1; cases h2; exact ⟨_, rfl⟩ | 1, h1, h2 => cases h1; cases h2; exact ⟨_, rfl⟩ | 2, h1, h2 => cases h1; cases h2; exact ⟨_, rfl⟩ | 3, h1, h2 => cases h1; cases h2; exact ⟨_, rfl⟩ | 4, h1, h2 => cases h1; cases h2; exact ⟨_, rfl⟩ | 5, h1, h2 => cases h1; cases h2; exact ⟨_, rfl⟩ | 6, h1, h2 => cases h1; cases h2; exact ⟨_, rfl⟩ | 7, h1, h2 => cases h1; cases h2; exact ⟨_, rfl⟩ | n + 8, h1, h2 => cases h1⟩
    · rw [hf26]; exact ⟨rfl, fun k t v h1 h2 => by match k, h1, h2 with | 0, h1, h2 => cases h1; cases h2; exact ⟨_, rfl⟩ | 1, h1, h2 => cases h1; cases h2; exact ⟨_, rfl⟩ | 2, h1, h2 => cases h1; cases h2; exact ⟨_, rfl⟩ | 3, h1, h2 => cases h1; cases h2; exact ⟨_, rfl⟩ | 4, h1, h2 => cases h1; cases h2; exact ⟨_, rfl⟩ | 5, h1, h2 => cases h1; cases h2; exact ⟨_, rfl⟩ | 6, h1, h2 => cases h1; cases h2; exact ⟨_, rfl⟩ | 7, h1, h2 => cases h1; cases h2; exact ⟨_, rfl⟩ | n + 8, h1, h2 => cases h1⟩
    · rw [hf27]; exact trivial
    · rw [hf28]; exact trivial
    · rw [hf29]; exact trivial
  · simp only [RLX, List.mem_cons, List.not_mem_nil, or_false] at hq
    rcases hq with rfl | rfl | rfl | rfl | rfl | rfl | rfl | rfl | rfl | rfl | rfl | rfl | rfl | rfl | rfl
    · exact ⟨List.mem_of_getElem? (i := 0) rfl, by rw [hf0]; rfl⟩
    · exact ⟨List.mem_of_getElem? (i := 11) rfl, by rw [hf11]; rfl⟩
    · exact ⟨List.mem_of_getElem? (i := 12) rfl, by rw [hf12]; rfl⟩
    · exact ⟨List.mem_of_getElem? (i := 10) rfl, by rw [hf10]; rfl⟩
    · exact ⟨List.mem_of_getElem? (i := 13) rfl, by rw [hf13]; rfl⟩
    · exact ⟨List.mem_of_getElem? (i := 14) rfl, by rw [hf14]; rfl⟩
    · exact ⟨List.mem_of_getElem? (i := 15) rfl, by rw [hf15]; rfl⟩
    · exact ⟨List.mem_of_getElem? (i := 1) rfl, by rw [hf1]; rfl⟩
    · exact ⟨List.mem_of_getElem? (i := 2) rfl, by rw [hf2]; rfl⟩
    · exact ⟨List.mem_of_getElem? (i := 9) rfl, by rw [hf9]; rfl⟩
    · exact ⟨List.mem_of_getElem? (i := 17) rfl, by rw [hf17]; rfl⟩
    · exact ⟨List.mem_of_getElem? (i := 18) rfl, by rw [hf18]; rfl⟩
    · exact ⟨List.mem_of_getElem? (i := 19) rfl, by rw [hf19]; rfl⟩
    · exact ⟨List.mem_of_getElem? (i := 26) rfl, by rw [hf26]; rfl⟩
    · exact ⟨List.mem_of_getElem? (i := 16) rfl, by rw [hf16]; rfl⟩
  · match k, hk with | 0, _ => exact ⟨by unfold ra; rw [hf2]; exact hfv 0 (by decide), VR_new (List.mem_of_getElem? (i := 3) rfl) hf3 rfl rfl rfl rfl (hfs 0 (by decide)) rfl rfl rfl rfl⟩ | 1, _ => exact ⟨by unfold ra; rw [hf2]; exact hfv 1 (by decide), VR_new (List.mem_of_getElem? (i := 4) rfl) hf4 rfl rfl rfl rfl (hfs 1 (by decide)) rfl rfl rfl rfl⟩ | 2, _ => exact ⟨by unfold ra; rw [hf2]; exact hfv 2 (by decide), VR_new (List.mem_of_getElem? (i := 5) rfl) hf5 rfl rfl rfl rfl (hfs 2 (by decide)) rfl rfl rfl rfl⟩ | 3, _ => exact ⟨by unfold ra; rw [hf2]; exact hfv 3 (by decide), VR_new (List.mem_of_getElem? (i := 6) rfl) hf6 rfl rfl rfl rfl (hfs 3 (by decide)) rfl rfl rfl rfl⟩ | 4, _ => exact ⟨by unfold ra; rw [hf2]; exact hfv 4 (by decide), VR_new (List.mem_of_getElem? (i := 7) rfl) hf7 rfl rfl rfl rfl (hfs 4 (by decide)) rfl rfl rfl rfl⟩ | 5, _ => exact ⟨by unfold ra; rw [hf2]; exact hfv 5 (by decide), VR_new (List.mem_of_getElem? (i := 8) rfl) hf8 rfl rfl rfl rfl (hfs 5 (by decide)) rfl rfl rfl rfl⟩ | n + 6, h => exact absurd h (by omega)
  · have hk : (k : Int) < (0 : Int32).toInt := hk
    have e0 : (0 : Int32).toInt = 0 := by decide
    omega
  · unfold ra; rw [hf19]; exact hfp k hk
  · intro e; unfold ra at e; rw [hf9] at e; cases e
  · unfold ra; rw [hf16]

theorem BI_zero {ff : Nat → Int32} (hff : ∀ k, k < 8 → ff k = -1) : BI (fun _ => 0) (fun _ => 0) (fun _ => 0) (fun _ => 0) (fun _ => 0) ff (fun _ => 0) := fun r hr => ⟨(by decide : (0 : Int) ≤ (0 : Int32).toInt), (by decide : (0 : Int32).toInt ≤ 300), fun _ => 0, fun k hk => by
  have h1 := hk.1
  have h2 := hk.2
  have h3 : (k : Int) < 300 * r + (0 : Int32).toInt := h2
  have : (0 : Int32).toInt = 0 := by decide
  omega, Or.inr (Or.inl (hff r hr))⟩
theorem mi0_20 {P : Nat → Prop} : ∀ p : Nat, (p : Int) < (mi0 20).toInt → P p := fun p hp => absurd hp (by
  have e0 : (mi0 20).toInt = 0 := by decide
  omega)

set_option maxHeartbeats 4000000 in
set_option maxRecDepth 100000 in
theorem whole_start {p : Program} {e : Env} {s : State} {m : MethodId} {below : List Frame} {meth : Method} {c : Code} (l : Launch) (hlt : l.stackTraces = false) {b L : Nat} {xs : Nat → Int32} (hL : L ≤ 3072) (C0 : lw_At p s m meth c b L xs) : W p l e room_1 s m #[Value.ref b] below meth c s.heap [] 0 0 (lw_Z below #[Value.ref b] s) (entryFrame m ([Value.ref b] : List Value).toArray 7) := by
  obtain ⟨hx, hb, hr, hml, hown, hts, hX, hbl, hlocks, hgv⟩ := id C0
  have hown : s.vm.findClass RL = some m.cls := hown
  have hA : ∀ q : Nat, s.heap.size ≤ q → (fun q : Nat => s.heap.size ≤ q) q := fun _ h => h
  have hbA : ¬ (fun q : Nat => s.heap.size ≤ q) b := Nat.not_le.mpr hbl
  obtain ⟨k0, i0, hk0⟩ := u_known (C := RX0) (T := TX0) (N := 8) (n := 8) hts iL_X0 (hts (.instantiable RX0 8) (gt_t1 (List.mem_of_getElem? (i := 208) (by exact rfl))))
  obtain ⟨k1, i1, hk1⟩ := u_known (C := RX1) (T := TX1) (N := 9) (n := 9) hts iL_X1 (hts (.instantiable RX1 9) (gt_t1 (List.mem_of_getElem? (i := 201) (by exact rfl))))
  obtain ⟨k2, i2, hk2⟩ := u_known (C := RX2) (T := TX2) (N := 6) (n := 6) hts iL_X2 (hts (.instantiable RX2 6) (gt_t1 (List.mem_of_getElem? (i := 100) (by exact rfl))))
  obtain ⟨k3, i3, hk3⟩ := u_known (C := RX3) (T := TX3) (N := 1) (n := 1) hts iL_X3 (hts (.instantiable RX3 1) (gt_t4 (List.mem_of_getElem? (i := 4) (by exact rfl))))
  obtain ⟨k4, i4, hk4⟩ := u_known (C := RX4) (T := TX4) (N := 8) (n := 8) hts iL_X4 (hts (.instantiable RX4 8) (gt_t1 (List.mem_of_getElem? (i := 164) (by exact rfl))))
  obtain ⟨k5, i5, hk5⟩ := u_known (C := RX5) (T := TX5) (N := 8) (n := 8) hts iL_X5 (hts (.instantiable RX5 8) (gt_t3 (List.mem_of_getElem? (i := 177) (by exact rfl))))
  obtain ⟨k6, i6, hk6⟩ := u_known (C := RX6) (T := TX6) (N := 7) (n := 7) hts iL_X6 (hts (.instantiable RX6 7) (gt_t1 (List.mem_of_getElem? (i := 106) (by exact rfl))))
  obtain ⟨k7, i7, hk7⟩ := u_known (C := RX7) (T := TX7) (N := 8) (n := 8) hts iL_X7 (hts (.instantiable RX7 8) (gt_t1 (List.mem_of_getElem? (i := 38) (by exact rfl))))
  obtain ⟨k8, i8, hk8⟩ := u_known (C := RX8) (T := TX8) (N := 3) (n := 3) hts iL_X8 (hts (.instantiable RX8 3) (gt_t1 (List.mem_of_getElem? (i := 31) (by exact rfl))))
  obtain ⟨k9, i9, hk9⟩ := u_known (C := RX9) (T := TX9) (N := 11) (n := 11) hts iL_X9 (hts (.instantiable RX9 11) (gt_t1 (List.mem_of_getElem? (i := 23) (by exact rfl))))
  obtain ⟨k10, i10, hk10⟩ := u_known (C := RX10) (T := TX10) (N := 51) (n := 51) hts iL_X10 (hts (.instantiable RX10 51) (gt_t4 (List.mem_of_getElem? (i := 207) (by exact rfl))))
  obtain ⟨dC, dI, hKc⟩ : ∃ (dC : Nat → ClassId) (dI : Nat → Nat → Nat), ∀ (k : Nat) (q : vw_C), vwCl[k]? = some q → u_Kn s q.1 q.2.1 q.2.2 (dC k) (dI k) := by
    refine ⟨fun k => match k with | 0 => k0 | 1 => k1 | 2 => k2 | 3 => k3 | 4 => k4 | 5 => k5 | 6 => k6 | 7 => k7 | 8 => k8 | 9 => k9 | 10 => k10 | _ => k0, fun k => match k with | 0 => i0 | 1 => i1 | 2 => i2 | 3 => i3 | 4 => i4 | 5 => i5 | 6 => i6 | 7 => i7 | 8 => i8 | 9 => i9 | 10 => i10 | _ => i0, ?_⟩
    intro k q hq
    match k, hq with
    | 0, hq => cases hq; exact hk0
    | 1, hq => cases hq; exact hk1
    | 2, hq => cases hq; exact hk2
    | 3, hq => cases hq; exact hk3
    | 4, hq => cases hq; exact hk4
    | 5, hq => cases hq; exact hk5
    | 6, hq => cases hq; exact hk6
    | 7, hq => cases hq; exact hk7
    | 8, hq => cases hq; exact hk8
    | 9, hq => cases hq; exact hk9
    | 10, hq => cases hq; exact hk10
    | k + 11, hq => simp [vwCl] at hq
  obtain ⟨sa, hev⟩ := law_ev hts hgv hk8.2.1 hk9.2.1
  have hS : va_S (fun q : Nat => s.heap.size ≤ q) s.heap s.heap [] := va_S.rf
  have hK : va_K (dC, dI) vwCl [] s := ⟨hKc, fun k q h => by simp at h⟩
  have hP : va_P (dC, dI) vwCl [] s.heap := fun k q h => by simp at h
  have hD : va_D (fun q : Nat => s.heap.size ≤ q) [] := ⟨fun i j p q h => by simp at h, fun k q h => by simp at h⟩
  have hl := lv_entry ([.ref b]) (n := 7) (Nat.le_of_ble_eq_true rfl)
  rw [lg_entry_eq]
  generalize (lg_sl ([.ref b]) ++ List.replicate (7 - (lg_sl ([.ref b])).length) Slot.unset).toArray = ls at hl ⊢
  have hl : lv_has ls 7 [(0, .ref b)] := hl
  refine va_new (ci := 9) (fs := [.null, .null, .int 0, .int 0, .null, .int 0, .null, .null, .int 0, .null, .null]) (C := RX9) (T := TX9) (N := 11) hx hb hts iL_X9 tyX9 tyX9_ok hown (hts (.classLink RL 8 RX9) (gt_t1 (List.mem_of_getElem? (i := 22) (by exact rfl)))) (hts (.instantiable RX9 11) (gt_t1 (List.mem_of_getElem? (i := 23) (by exact rfl)))) (hts (.initialized RX9) (gt_t1 (List.mem_of_getElem? (i := 1) (by exact rfl)))) hK hP hD hS hA rfl nfX9 (Nat.le_of_ble_eq_true rfl) (Nat.le_of_ble_eq_true rfl) dL_law_0 (fun q_1 H hP hD hS => ?_)
  have hP : va_P (dC, dI) vwCl [(q_1, .inr (9, [.null, .null, .int 0, .int 0, .null, .int 0, .null, .null, .int 0, .null, .null]))] _ := hP
  have hD : va_D _ [(q_1, .inr (9, [.null, .null, .int 0, .int 0, .null, .int 0, .null, .null, .int 0, .null, .null]))] := hD
  refine lv_dup hx hb dL_law_3 rfl ?_
  refine go_I (wr := []) ⟨hx, hb, hml, hown, hts⟩ (c_X9_init l dC dI sa hlt _ q_1 ) (cwI 0 hts gL_law_X9_init rfl rfl rfl (hts (.initialized RX9) (gt_t1 (List.mem_of_getElem? (i := 1) (by exact rfl)))) (hts (.methodLink RL 68 yX9_init) (gt_t1 (List.mem_of_getElem? (i := 24) (by exact rfl)))) (hts (.instanceMethod yX9_init) (gt_t1 (List.mem_of_getElem? (i := 25) (by exact rfl)))) rfl (by decide +kernel) ⟨Nat.le_of_ble_eq_true rfl, Nat.le_of_ble_eq_true rfl⟩) hP hD hK hS hA hev [0] [] [] rfl rfl rfl rfl (by decide) rfl rfl hl.1 rfl (Nat.le_of_ble_eq_true rfl) dL_law_4 ⟨Nat.le_of_ble_eq_true rfl, Nat.le_of_ble_eq_true rfl⟩ (fun r u H locs hw hP hD hK hS => ?_)
  obtain ⟨ad_2, ca_3, fv_4, fp_5⟩ := u
  have hw : r = none ∧ ((∀ k, k < 6 → fv_4 k = some (ad_2 (2 + k))) ∧ ∀ k, k < 6 → fp_5 k = some (ad_2 (19 + k))) := hw
  obtain ⟨rfl, hw_6⟩ := hw
  have hP : va_P (dC, dI) vwCl [(q_1, .inr (9, [.ref (ad_2 0), .ref (ad_2 8), .int 0, .int 0, .ref (ad_2 9), .int 0, .ref (ad_2 10), .ref (ad_2 15), .int 0, .ref (ad_2 16), .ref (ad_2 17)])), ((ad_2 0), .inr (8, [.ref (ad_2 1), .int 0, .int 0])), ((ad_2 1), .inl ((ca_3 1), 6, .inr (.inr (.inr (.inr fv_4))))), ((ad_2 2), .inr (7, [.int 0, .int 0, .int 0, .int 0, .int 2, .int 0, .int 0, .int (-2)])), ((ad_2 3), .inr (7, [.int 1, .int 0, .int 0, .int 0, .int 2, .int 0, .int 0, .int (-2)])), ((ad_2 4), .inr (7, [.int 2, .int 0, .int 0, .int 0, .int 2, .int 0, .int 0, .int (-2)])), ((ad_2 5), .inr (7, [.int 3, .int 0, .int 0, .int 0, .int 2, .int 0, .int 0, .int (-2)])), ((ad_2 6), .inr (7, [.int 4, .int 0, .int 0, .int 0, .int 2, .int 0, .int 0, .int (-2)])), ((ad_2 7), .inr (7, [.int 5, .int 0, .int 0, .int 0, .int 2, .int 0, .int 0, .int (-2)])), ((ad_2 8), .inl ((ca_3 8), 30, .inr (.inr (.inr (.inr (fun _ => none)))))), ((ad_2 9), .inl ((ca_3 9), 1500, .inl (fun _ => 0))), ((ad_2 10), .inr (2, [.ref (ad_2 11), .int 0, .int 0, .int 0, .int (-1), .int 0])), ((ad_2 11), .inr (6, [.ref (ad_2 9), .int 0, .int 0, .int 0, .ref (ad_2 12), .ref (ad_2 13), .ref (ad_2 14)])), ((ad_2 12), .inl ((ca_3 12), 1501, .inl (fun _ => 0))), ((ad_2 13), .inl ((ca_3 13), 1501, .inl (fun _ => 0))), ((ad_2 14), .inl ((ca_3 14), 1501, .inl (fun _ => 0))), ((ad_2 15), .inl ((ca_3 15), 8, .inr (.inr (.inr (.inr (fun _ => none)))))), ((ad_2 16), .inr (4, [.ref (ad_2 0), .int 0, .int (-1), .int 0, .int 0, .int 0, .int 0, .int 0])), ((ad_2 17), .inr (1, [.ref (ad_2 0), .ref (ad_2 18), .ref (ad_2 25), .int 0, .int 0, .int 0, .ref (ad_2 26), .ref (ad_2 27), .ref (ad_2 28)])), ((ad_2 18), .inl ((ca_3 18), 6, .inr (.inr (.inr (.inr fp_5))))), ((ad_2 19), .inr (7, [.int 0, .int 0, .int 0, .int 0, .int 2, .int 0, .int 0, .int (-2)])), ((ad_2 20), .inr (7, [.int 1, .int 0, .int 0, .int 0, .int 2, .int 0, .int 0, .int (-2)])), ((ad_2 21), .inr (7, [.int 2, .int 0, .int 0, .int 0, .int 2, .int 0, .int 0, .int (-2)])), ((ad_2 22), .inr (7, [.int 3, .int 0, .int 0, .int 0, .int 2, .int 0, .int 0, .int (-2)])), ((ad_2 23), .inr (7, [.int 4, .int 0, .int 0, .int 0, .int 2, .int 0, .int 0, .int (-2)])), ((ad_2 24), .inr (7, [.int 5, .int 0, .int 0, .int 0, .int 2, .int 0, .int 0, .int (-2)])), ((ad_2 25), .inr (0, [.int 0, .int 1, .int 0, .int 0, .int 0, .int (-1), .int 0, .int 0])), ((ad_2 26), .inl ((ca_3 26), 3, .inl (fun _ => 0))), ((ad_2 27), .inl ((ca_3 27), 3, .inl (fun _ => 0))), ((ad_2 28), .inl ((ca_3 28), 3, .inl (fun _ => 0)))] _ := hP
  have hD : va_D _ [(q_1, .inr (9, [.ref (ad_2 0), .ref (ad_2 8), .int 0, .int 0, .ref (ad_2 9), .int 0, .ref (ad_2 10), .ref (ad_2 15), .int 0, .ref (ad_2 16), .ref (ad_2 17)])), ((ad_2 0), .inr (8, [.ref (ad_2 1), .int 0, .int 0])), ((ad_2 1), .inl ((ca_3 1), 6, .inr (.inr (.inr (.inr fv_4))))), ((ad_2 2), .inr (7, [.int 0, .int 0, .int 0, .int 0, .int 2, .int 0, .int 0, .int (-2)])), ((ad_2 3), .inr (7, [.int 1, .int 0, .int 0, .int 0, .int 2, .int 0, .int 0, .int (-2)])), ((ad_2 4), .inr (7, [.int 2, .int 0, .int 0, .int 0, .int 2, .int 0, .int 0, .int (-2)])), ((ad_2 5), .inr (7, [.int 3, .int 0, .int 0, .int 0, .int 2, .int 0, .int 0, .int (-2)])), ((ad_2 6), .inr (7, [.int 4, .int 0, .int 0, .int 0, .int 2, .int 0, .int 0, .int (-2)])), ((ad_2 7), .inr (7, [.int 5, .int 0, .int 0, .int 0, .int 2, .int 0, .int 0, .int (-2)])), ((ad_2 8), .inl ((ca_3 8), 30, .inr (.inr (.inr (.inr (fun _ => none)))))), ((ad_2 9), .inl ((ca_3 9), 1500, .inl (fun _ => 0))), ((ad_2 10), .inr (2, [.ref (ad_2 11), .int 0, .int 0, .int 0, .int (-1), .int 0])), ((ad_2 11), .inr (6, [.ref (ad_2 9), .int 0, .int 0, .int 0, .ref (ad_2 12), .ref (ad_2 13), .ref (ad_2 14)])), ((ad_2 12), .inl ((ca_3 12), 1501, .inl (fun _ => 0))), ((ad_2 13), .inl ((ca_3 13), 1501, .inl (fun _ => 0))), ((ad_2 14), .inl ((ca_3 14), 1501, .inl (fun _ => 0))), ((ad_2 15), .inl ((ca_3 15), 8, .inr (.inr (.inr (.inr (fun _ => none)))))), ((ad_2 16), .inr (4, [.ref (ad_2 0), .int 0, .int (-1), .int 0, .int 0, .int 0, .int 0, .int 0])), ((ad_2 17), .inr (1, [.ref (ad_2 0), .ref (ad_2 18), .ref (ad_2 25), .int 0, .int 0, .int 0, .ref (ad_2 26), .ref (ad_2 27), .ref (ad_2 28)])), ((ad_2 18), .inl ((ca_3 18), 6, .inr (.inr (.inr (.inr fp_5))))), ((ad_2 19), .inr (7, [.int 0, .int 0, .int 0, .int 0, .int 2, .int 0, .int 0, .int (-2)])), ((ad_2 20), .inr (7, [.int 1, .int 0, .int 0, .int 0, .int 2, .int 0, .int 0, .int (-2)])), ((ad_2 21), .inr (7, [.int 2, .int 0, .int 0, .int 0, .int 2, .int 0, .int 0, .int (-2)])), ((ad_2 22), .inr (7, [.int 3, .int 0, .int 0, .int 0, .int 2, .int 0, .int 0, .int (-2)])), ((ad_2 23), .inr (7, [.int 4, .int 0, .int 0, .int 0, .int 2, .int 0, .int 0, .int (-2)])), ((ad_2 24), .inr (7, [.int 5, .int 0, .int 0, .int 0, .int 2, .int 0, .int 0, .int (-2)])), ((ad_2 25), .inr (0, [.int 0, .int 1, .int 0, .int 0, .int 0, .int (-1), .int 0, .int 0])), ((ad_2 26), .inl ((ca_3 26), 3, .inl (fun _ => 0))), ((ad_2 27), .inl ((ca_3 27), 3, .inl (fun _ => 0))), ((ad_2 28), .inl ((ca_3 28), 3, .inl (fun _ => 0)))] := hD
  have hK : va_K (dC, dI) vwCl [((ca_3 1), .object "VatHouse$Vat"), ((ca_3 8), .object "VatHouse$Cloth"), ((ca_3 9), .byte), ((ca_3 12), .int), ((ca_3 13), .int), ((ca_3 14), .int), ((ca_3 15), .object "VatHouse$Recipe"), ((ca_3 18), .object "VatHouse$Vat"), ((ca_3 26), .int), ((ca_3 27), .int), ((ca_3 28), .int)] s := hK
  refine W.eq (g2 := F0 m 7 ls [.ref q_1]) rfl ?_
  refine lv_astore_n (lv' := [(1, .ref q_1), (0, .ref b)]) hx hb dL_law_7 rfl hl (by decide) rfl (fun ls hl => ?_)
  refine va_new (ci := 10) (fs := [.int 0, .int 0, .int 0, .int 0, .null, .null, .null, .null, .null, .null, .null, .null, .int 0, .null, .null, .null, .null, .null, .null, .null, .int 0, .int 0, .int 0, .int 0, .int 0, .int 0, .null, .null, .null, .null, .null, .null, .null, .null, .null, .null, .int 0, .int 0, .int 0, .int 0, .int 0, .int 0, .int 0, .int 0, .int 0, .int 0, .int 0, .null, .null, .null, .null]) (C := RX10) (T := TX10) (N := 51) hx hb hts iL_X10 tyX10 tyX10_ok hown (hts (.classLink RL 69 RX10) (gt_t4 (List.mem_of_getElem? (i := 206) (by exact rfl)))) (hts (.instantiable RX10 51) (gt_t4 (List.mem_of_getElem? (i := 207) (by exact rfl)))) (hts (.initialized RX10) (gt_t1 (List.mem_of_getElem? (i := 9) (by exact rfl)))) hK hP hD hS hA rfl nfX10 (Nat.le_of_ble_eq_true rfl) (Nat.le_of_ble_eq_true rfl) dL_law_8 (fun q_7 H hP hD hS => ?_)
  have hP : va_P (dC, dI) vwCl [(q_1, .inr (9, [.ref (ad_2 0), .ref (ad_2 8), .int 0, .int 0, .ref (ad_2 9), .int 0, .ref (ad_2 10), .ref (ad_2 15), .int 0, .ref (ad_2 16), .ref (ad_2 17)])), ((ad_2 0), .inr (8, [.ref (ad_2 1), .int 0, .int 0])), ((ad_2 1), .inl ((ca_3 1), 6, .inr (.inr (.inr (.inr fv_4))))), ((ad_2 2), .inr (7, [.int 0, .int 0, .int 0, .int 0, .int 2, .int 0, .int 0, .int (-2)])), ((ad_2 3), .inr (7, [.int 1, .int 0, .int 0, .int 0, .int 2, .int 0, .int 0, .int (-2)])), ((ad_2 4), .inr (7, [.int 2, .int 0, .int 0, .int 0, .int 2, .int 0, .int 0, .int (-2)])), ((ad_2 5), .inr (7, [.int 3, .int 0, .int 0, .int 0, .int 2, .int 0, .int 0, .int (-2)])), ((ad_2 6), .inr (7, [.int 4, .int 0, .int 0, .int 0, .int 2, .int 0, .int 0, .int (-2)])), ((ad_2 7), .inr (7, [.int 5, .int 0, .int 0, .int 0, .int 2, .int 0, .int 0, .int (-2)])), ((ad_2 8), .inl ((ca_3 8), 30, .inr (.inr (.inr (.inr (fun _ => none)))))), ((ad_2 9), .inl ((ca_3 9), 1500, .inl (fun _ => 0))), ((ad_2 10), .inr (2, [.ref (ad_2 11), .int 0, .int 0, .int 0, .int (-1), .int 0])), ((ad_2 11), .inr (6, [.ref (ad_2 9), .int 0, .int 0, .int 0, .ref (ad_2 12), .ref (ad_2 13), .ref (ad_2 14)])), ((ad_2 12), .inl ((ca_3 12), 1501, .inl (fun _ => 0))), ((ad_2 13), .inl ((ca_3 13), 1501, .inl (fun _ => 0))), ((ad_2 14), .inl ((ca_3 14), 1501, .inl (fun _ => 0))), ((ad_2 15), .inl ((ca_3 15), 8, .inr (.inr (.inr (.inr (fun _ => none)))))), ((ad_2 16), .inr (4, [.ref (ad_2 0), .int 0, .int (-1), .int 0, .int 0, .int 0, .int 0, .int 0])), ((ad_2 17), .inr (1, [.ref (ad_2 0), .ref (ad_2 18), .ref (ad_2 25), .int 0, .int 0, .int 0, .ref (ad_2 26), .ref (ad_2 27), .ref (ad_2 28)])), ((ad_2 18), .inl ((ca_3 18), 6, .inr (.inr (.inr (.inr fp_5))))), ((ad_2 19), .inr (7, [.int 0, .int 0, .int 0, .int 0, .int 2, .int 0, .int 0, .int (-2)])), ((ad_2 20), .inr (7, [.int 1, .int 0, .int 0, .int 0, .int 2, .int 0, .int 0, .int (-2)])), ((ad_2 21), .inr (7, [.int 2, .int 0, .int 0, .int 0, .int 2, .int 0, .int 0, .int (-2)])), ((ad_2 22), .inr (7, [.int 3, .int 0, .int 0, .int 0, .int 2, .int 0, .int 0, .int (-2)])), ((ad_2 23), .inr (7, [.int 4, .int 0, .int 0, .int 0, .int 2, .int 0, .int 0, .int (-2)])), ((ad_2 24), .inr (7, [.int 5, .int 0, .int 0, .int 0, .int 2, .int 0, .int 0, .int (-2)])), ((ad_2 25), .inr (0, [.int 0, .int 1, .int 0, .int 0, .int 0, .int (-1), .int 0, .int 0])), ((ad_2 26), .inl ((ca_3 26), 3, .inl (fun _ => 0))), ((ad_2 27), .inl ((ca_3 27), 3, .inl (fun _ => 0))), ((ad_2 28), .inl ((ca_3 28), 3, .inl (fun _ => 0))), (q_7, .inr (10, [.int 0, .int 0, .int 0, .int 0, .null, .null, .null, .null, .null, .null, .null, .null, .int 0, .null, .null, .null, .null, .null, .null, .null, .int 0, .int 0, .int 0, .int 0, .int 0, .int 0, .null, .null, .null, .null, .null, .null, .null, .null, .null, .null, .int 0, .int 0, .int 0, .int 0, .int 0, .int 0, .int 0, .int 0, .int 0, .int 0, .int 0, .null, .null, .null, .null]))] _ := hP
  have hD : va_D _ [(q_1, .inr (9, [.ref (ad_2 0), .ref (ad_2 8), .int 0, .int 0, .ref (ad_2 9), .int 0, .ref (ad_2 10), .ref (ad_2 15), .int 0, .ref (ad_2 16), .ref (ad_2 17)])), ((ad_2 0), .inr (8, [.ref (ad_2 1), .int 0, .int 0])), ((ad_2 1), .inl ((ca_3 1), 6, .inr (.inr (.inr (.inr fv_4))))), ((ad_2 2), .inr (7, [.int 0, .int 0, .int 0, .int 0, .int 2, .int 0, .int 0, .int (-2)])), ((ad_2 3), .inr (7, [.int 1, .int 0, .int 0, .int 0, .int 2, .int 0, .int 0, .int (-2)])), ((ad_2 4), .inr (7, [.int 2, .int 0, .int 0, .int 0, .int 2, .int 0, .int 0, .int (-2)])), ((ad_2 5), .inr (7, [.int 3, .int 0, .int 0, .int 0, .int 2, .int 0, .int 0, .int (-2)])), ((ad_2 6), .inr (7, [.int 4, .int 0, .int 0, .int 0, .int 2, .int 0, .int 0, .int (-2)])), ((ad_2 7), .inr (7, [.int 5, .int 0, .int 0, .int 0, .int 2, .int 0, .int 0, .int (-2)])), ((ad_2 8), .inl ((ca_3 8), 30, .inr (.inr (.inr (.inr (fun _ => none)))))), ((ad_2 9), .inl ((ca_3 9), 1500, .inl (fun _ => 0))), ((ad_2 10), .inr (2, [.ref (ad_2 11), .int 0, .int 0, .int 0, .int (-1), .int 0])), ((ad_2 11), .inr (6, [.ref (ad_2 9), .int 0, .int 0, .int 0, .ref (ad_2 12), .ref (ad_2 13), .ref (ad_2 14)])), ((ad_2 12), .inl ((ca_3 12), 1501, .inl (fun _ => 0))), ((ad_2 13), .inl ((ca_3 13), 1501, .inl (fun _ => 0))), ((ad_2 14), .inl ((ca_3 14), 1501, .inl (fun _ => 0))), ((ad_2 15), .inl ((ca_3 15), 8, .inr (.inr (.inr (.inr (fun _ => none)))))), ((ad_2 16), .inr (4, [.ref (ad_2 0), .int 0, .int (-1), .int 0, .int 0, .int 0, .int 0, .int 0])), ((ad_2 17), .inr (1, [.ref (ad_2 0), .ref (ad_2 18), .ref (ad_2 25), .int 0, .int 0, .int 0, .ref (ad_2 26), .ref (ad_2 27), .ref (ad_2 28)])), ((ad_2 18), .inl ((ca_3 18), 6, .inr (.inr (.inr (.inr fp_5))))), ((ad_2 19), .inr (7, [.int 0, .int 0, .int 0, .int 0, .int 2, .int 0, .int 0, .int (-2)])), ((ad_2 20), .inr (7, [.int 1, .int 0, .int 0, .int 0, .int 2, .int 0, .int 0, .int (-2)])), ((ad_2 21), .inr (7, [.int 2, .int 0, .int 0, .int 0, .int 2, .int 0, .int 0, .int (-2)])), ((ad_2 22), .inr (7, [.int 3, .int 0, .int 0, .int 0, .int 2, .int 0, .int 0, .int (-2)])), ((ad_2 23), .inr (7, [.int 4, .int 0, .int 0, .int 0, .int 2, .int 0, .int 0, .int (-2)])), ((ad_2 24), .inr (7, [.int 5, .int 0, .int 0, .int 0, .int 2, .int 0, .int 0, .int (-2)])), ((ad_2 25), .inr (0, [.int 0, .int 1, .int 0, .int 0, .int 0, .int (-1), .int 0, .int 0])), ((ad_2 26), .inl ((ca_3 26), 3, .inl (fun _ => 0))), ((ad_2 27), .inl ((ca_3 27), 3, .inl (fun _ => 0))), ((ad_2 28), .inl ((ca_3 28), 3, .inl (fun _ => 0))), (q_7, .inr (10, [.int 0, .int 0, .int 0, .int 0, .null, .null, .null, .null, .null, .null, .null, .null, .int 0, .null, .null, .null, .null, .null, .null, .null, .int 0, .int 0, .int 0, .int 0, .int 0, .int 0, .null, .null, .null, .null, .null, .null, .null, .null, .null, .null, .int 0, .int 0, .int 0, .int 0, .int 0, .int 0, .int 0, .int 0, .int 0, .int 0, .int 0, .null, .null, .null, .null]))] := hD
  refine lv_dup hx hb dL_law_11 rfl ?_
  refine go_I (wr := [(q_1, .inr (9, [.ref (ad_2 0), .ref (ad_2 8), .int 0, .int 0, .ref (ad_2 9), .int 0, .ref (ad_2 10), .ref (ad_2 15), .int 0, .ref (ad_2 16), .ref (ad_2 17)])), ((ad_2 0), .inr (8, [.ref (ad_2 1), .int 0, .int 0])), ((ad_2 1), .inl ((ca_3 1), 6, .inr (.inr (.inr (.inr fv_4))))), ((ad_2 2), .inr (7, [.int 0, .int 0, .int 0, .int 0, .int 2, .int 0, .int 0, .int (-2)])), ((ad_2 3), .inr (7, [.int 1, .int 0, .int 0, .int 0, .int 2, .int 0, .int 0, .int (-2)])), ((ad_2 4), .inr (7, [.int 2, .int 0, .int 0, .int 0, .int 2, .int 0, .int 0, .int (-2)])), ((ad_2 5), .inr (7, [.int 3, .int 0, .int 0, .int 0, .int 2, .int 0, .int 0, .int (-2)])), ((ad_2 6), .inr (7, [.int 4, .int 0, .int 0, .int 0, .int 2, .int 0, .int 0, .int (-2)])), ((ad_2 7), .inr (7, [.int 5, .int 0, .int 0, .int 0, .int 2, .int 0, .int 0, .int (-2)])), ((ad_2 8), .inl ((ca_3 8), 30, .inr (.inr (.inr (.inr (fun _ => none)))))), ((ad_2 9), .inl ((ca_3 9), 1500, .inl (fun _ => 0))), ((ad_2 10), .inr (2, [.ref (ad_2 11), .int 0, .int 0, .int 0, .int (-1), .int 0])), ((ad_2 11), .inr (6, [.ref (ad_2 9), .int 0, .int 0, .int 0, .ref (ad_2 12), .ref (ad_2 13), .ref (ad_2 14)])), ((ad_2 12), .inl ((ca_3 12), 1501, .inl (fun _ => 0))), ((ad_2 13), .inl ((ca_3 13), 1501, .inl (fun _ => 0))), ((ad_2 14), .inl ((ca_3 14), 1501, .inl (fun _ => 0))), ((ad_2 15), .inl ((ca_3 15), 8, .inr (.inr (.inr (.inr (fun _ => none)))))), ((ad_2 16), .inr (4, [.ref (ad_2 0), .int 0, .int (-1), .int 0, .int 0, .int 0, .int 0, .int 0])), ((ad_2 17), .inr (1, [.ref (ad_2 0), .ref (ad_2 18), .ref (ad_2 25), .int 0, .int 0, .int 0, .ref (ad_2 26), .ref (ad_2 27), .ref (ad_2 28)])), ((ad_2 18), .inl ((ca_3 18), 6, .inr (.inr (.inr (.inr fp_5))))), ((ad_2 19), .inr (7, [.int 0, .int 0, .int 0, .int 0, .int 2, .int 0, .int 0, .int (-2)])), ((ad_2 20), .inr (7, [.int 1, .int 0, .int 0, .int 0, .int 2, .int 0, .int 0, .int (-2)])), ((ad_2 21), .inr (7, [.int 2, .int 0, .int 0, .int 0, .int 2, .int 0, .int 0, .int (-2)])), ((ad_2 22), .inr (7, [.int 3, .int 0, .int 0, .int 0, .int 2, .int 0, .int 0, .int (-2)])), ((ad_2 23), .inr (7, [.int 4, .int 0, .int 0, .int 0, .int 2, .int 0, .int 0, .int (-2)])), ((ad_2 24), .inr (7, [.int 5, .int 0, .int 0, .int 0, .int 2, .int 0, .int 0, .int (-2)])), ((ad_2 25), .inr (0, [.int 0, .int 1, .int 0, .int 0, .int 0, .int (-1), .int 0, .int 0])), ((ad_2 26), .inl ((ca_3 26), 3, .inl (fun _ => 0))), ((ad_2 27), .inl ((ca_3 27), 3, .inl (fun _ => 0))), ((ad_2 28), .inl ((ca_3 28), 3, .inl (fun _ => 0)))]) ⟨hx, hb, hml, hown, hts⟩ (c_X10_init l dC dI sa hlt _ q_7 ) (cwI 0 hts gL_law_X10_init rfl rfl rfl (hts (.initialized RX10) (gt_t1 (List.mem_of_getElem? (i := 9) (by exact rfl)))) (hts (.methodLink RL 71 yX10_init) (gt_t4 (List.mem_of_getElem? (i := 208) (by exact rfl)))) (hts (.instanceMethod yX10_init) (gt_t4 (List.mem_of_getElem? (i := 209) (by exact rfl)))) rfl (by decide +kernel) ⟨Nat.le_of_ble_eq_true rfl, Nat.le_of_ble_eq_true rfl⟩) hP hD hK hS hA hev [30] [0, 1, 2, 3, 4, 5, 6, 7, 8, 9, 10, 11, 12, 13, 14, 15, 16, 17, 18, 19, 20, 21, 22, 23, 24, 25, 26, 27, 28, 29] [] rfl rfl rfl rfl (by decide) rfl rfl hl.1 rfl (Nat.le_of_ble_eq_true rfl) dL_law_12 ⟨Nat.le_of_ble_eq_true rfl, Nat.le_of_ble_eq_true rfl⟩ (fun r u H locs hw hP hD hK hS => ?_)
  obtain ⟨md_8, mq_9, fs_10, fd_11, ff_12⟩ := u
  have hw : r = none ∧ (((∀ k, k < 6 → fs_10 k = 2) ∧ ∀ k, k < 30 → fd_11 k = -1) ∧ ∀ k, k < 8 → ff_12 k = -1) := hw
  obtain ⟨rfl, hw_13⟩ := hw
  have hP : va_P (dC, dI) vwCl [(q_1, .inr (9, [.ref (ad_2 0), .ref (ad_2 8), .int 0, .int 0, .ref (ad_2 9), .int 0, .ref (ad_2 10), .ref (ad_2 15), .int 0, .ref (ad_2 16), .ref (ad_2 17)])), ((ad_2 0), .inr (8, [.ref (ad_2 1), .int 0, .int 0])), ((ad_2 1), .inl ((ca_3 1), 6, .inr (.inr (.inr (.inr fv_4))))), ((ad_2 2), .inr (7, [.int 0, .int 0, .int 0, .int 0, .int 2, .int 0, .int 0, .int (-2)])), ((ad_2 3), .inr (7, [.int 1, .int 0, .int 0, .int 0, .int 2, .int 0, .int 0, .int (-2)])), ((ad_2 4), .inr (7, [.int 2, .int 0, .int 0, .int 0, .int 2, .int 0, .int 0, .int (-2)])), ((ad_2 5), .inr (7, [.int 3, .int 0, .int 0, .int 0, .int 2, .int 0, .int 0, .int (-2)])), ((ad_2 6), .inr (7, [.int 4, .int 0, .int 0, .int 0, .int 2, .int 0, .int 0, .int (-2)])), ((ad_2 7), .inr (7, [.int 5, .int 0, .int 0, .int 0, .int 2, .int 0, .int 0, .int (-2)])), ((ad_2 8), .inl ((ca_3 8), 30, .inr (.inr (.inr (.inr (fun _ => none)))))), ((ad_2 9), .inl ((ca_3 9), 1500, .inl (fun _ => 0))), ((ad_2 10), .inr (2, [.ref (ad_2 11), .int 0, .int 0, .int 0, .int (-1), .int 0])), ((ad_2 11), .inr (6, [.ref (ad_2 9), .int 0, .int 0, .int 0, .ref (ad_2 12), .ref (ad_2 13), .ref (ad_2 14)])), ((ad_2 12), .inl ((ca_3 12), 1501, .inl (fun _ => 0))), ((ad_2 13), .inl ((ca_3 13), 1501, .inl (fun _ => 0))), ((ad_2 14), .inl ((ca_3 14), 1501, .inl (fun _ => 0))), ((ad_2 15), .inl ((ca_3 15), 8, .inr (.inr (.inr (.inr (fun _ => none)))))), ((ad_2 16), .inr (4, [.ref (ad_2 0), .int 0, .int (-1), .int 0, .int 0, .int 0, .int 0, .int 0])), ((ad_2 17), .inr (1, [.ref (ad_2 0), .ref (ad_2 18), .ref (ad_2 25), .int 0, .int 0, .int 0, .ref (ad_2 26), .ref (ad_2 27), .ref (ad_2 28)])), ((ad_2 18), .inl ((ca_3 18), 6, .inr (.inr (.inr (.inr fp_5))))), ((ad_2 19), .inr (7, [.int 0, .int 0, .int 0, .int 0, .int 2, .int 0, .int 0, .int (-2)])), ((ad_2 20), .inr (7, [.int 1, .int 0, .int 0, .int 0, .int 2, .int 0, .int 0, .int (-2)])), ((ad_2 21), .inr (7, [.int 2, .int 0, .int 0, .int 0, .int 2, .int 0, .int 0, .int (-2)])), ((ad_2 22), .inr (7, [.int 3, .int 0, .int 0, .int 0, .int 2, .int 0, .int 0, .int (-2)])), ((ad_2 23), .inr (7, [.int 4, .int 0, .int 0, .int 0, .int 2, .int 0, .int 0, .int (-2)])), ((ad_2 24), .inr (7, [.int 5, .int 0, .int 0, .int 0, .int 2, .int 0, .int 0, .int (-2)])), ((ad_2 25), .inr (0, [.int 0, .int 1, .int 0, .int 0, .int 0, .int (-1), .int 0, .int 0])), ((ad_2 26), .inl ((ca_3 26), 3, .inl (fun _ => 0))), ((ad_2 27), .inl ((ca_3 27), 3, .inl (fun _ => 0))), ((ad_2 28), .inl ((ca_3 28), 3, .inl (fun _ => 0))), (q_7, .inr (10, [.int 0, .int 0, .int 0, .int 0, .ref (md_8 4), .ref (md_8 5), .ref (md_8 6), .ref (md_8 7), .ref (md_8 8), .ref (md_8 9), .ref (md_8 10), .ref (md_8 11), .int 0, .ref (md_8 13), .ref (md_8 14), .ref (md_8 15), .ref (md_8 16), .ref (md_8 17), .ref (md_8 18), .ref (md_8 19), .int 0, .int 0, .int 0, .int 0, .int (-1), .int 0, .ref (md_8 26), .ref (md_8 27), .ref (md_8 28), .ref (md_8 29), .ref (md_8 30), .ref (md_8 31), .ref (md_8 32), .ref (md_8 33), .ref (md_8 34), .ref (md_8 35), .int 0, .int 0, .int 0, .int 0, .int 0, .int 0, .int 0, .int 0, .int (-1), .int 0, .int 0, .ref (md_8 47), .ref (md_8 48), .ref (md_8 49), .ref (md_8 50)])), ((md_8 4), .inl ((mq_9 4), 6, .inl (fun _ => 0))), ((md_8 5), .inl ((mq_9 5), 6, .inl (fun _ => 0))), ((md_8 6), .inl ((mq_9 6), 6, .inl (fun _ => 0))), ((md_8 7), .inl ((mq_9 7), 6, .inl fs_10)), ((md_8 8), .inl ((mq_9 8), 6, .inl (fun _ => 0))), ((md_8 9), .inl ((mq_9 9), 6, .inl (fun _ => 0))), ((md_8 10), .inl ((mq_9 10), 6, .inl (fun _ => 0))), ((md_8 11), .inl ((mq_9 11), 6, .inl (fun _ => 0))), ((md_8 13), .inl ((mq_9 13), 30, .inl (fun _ => 0))), ((md_8 14), .inl ((mq_9 14), 30, .inl (fun _ => 0))), ((md_8 15), .inl ((mq_9 15), 30, .inl (fun _ => 0))), ((md_8 16), .inl ((mq_9 16), 30, .inl fd_11)), ((md_8 17), .inl ((mq_9 17), 30, .inl (fun _ => 0))), ((md_8 18), .inl ((mq_9 18), 30, .inl (fun _ => 0))), ((md_8 19), .inl ((mq_9 19), 1500, .inl (fun _ => 0))), ((md_8 26), .inl ((mq_9 26), 2700, .inl (fun _ => 0))), ((md_8 27), .inl ((mq_9 27), 2700, .inl (fun _ => 0))), ((md_8 28), .inl ((mq_9 28), 2700, .inl (fun _ => 0))), ((md_8 29), .inl ((mq_9 29), 2700, .inl (fun _ => 0))), ((md_8 30), .inl ((mq_9 30), 2700, .inl (fun _ => 0))), ((md_8 31), .inl ((mq_9 31), 2700, .inl (fun _ => 0))), ((md_8 32), .inl ((mq_9 32), 2700, .inl (fun _ => 0))), ((md_8 33), .inl ((mq_9 33), 2700, .inl (fun _ => 0))), ((md_8 34), .inl ((mq_9 34), 8, .inl ff_12)), ((md_8 35), .inl ((mq_9 35), 8, .inl (fun _ => 0))), ((md_8 47), .inl ((mq_9 47), 3, .inl (fun _ => 0))), ((md_8 48), .inl ((mq_9 48), 3, .inl (fun _ => 0))), ((md_8 49), .inl ((mq_9 49), 3, .inl (fun _ => 0))), ((md_8 50), .inl ((mq_9 50), 104, .inl (fun _ => 0)))] _ := hP
  have hD : va_D _ [(q_1, .inr (9, [.ref (ad_2 0), .ref (ad_2 8), .int 0, .int 0, .ref (ad_2 9), .int 0, .ref (ad_2 10), .ref (ad_2 15), .int 0, .ref (ad_2 16), .ref (ad_2 17)])), ((ad_2 0), .inr (8, [.ref (ad_2 1), .int 0, .int 0])), ((ad_2 1), .inl ((ca_3 1), 6, .inr (.inr (.inr (.inr fv_4))))), ((ad_2 2), .inr (7, [.int 0, .int 0, .int 0, .int 0, .int 2, .int 0, .int 0, .int (-2)])), ((ad_2 3), .inr (7, [.int 1, .int 0, .int 0, .int 0, .int 2, .int 0, .int 0, .int (-2)])), ((ad_2 4), .inr (7, [.int 2, .int 0, .int 0, .int 0, .int 2, .int 0, .int 0, .int (-2)])), ((ad_2 5), .inr (7, [.int 3, .int 0, .int 0, .int 0, .int 2, .int 0, .int 0, .int (-2)])), ((ad_2 6), .inr (7, [.int 4, .int 0, .int 0, .int 0, .int 2, .int 0, .int 0, .int (-2)])), ((ad_2 7), .inr (7, [.int 5, .int 0, .int 0, .int 0, .int 2, .int 0, .int 0, .int (-2)])), ((ad_2 8), .inl ((ca_3 8), 30, .inr (.inr (.inr (.inr (fun _ => none)))))), ((ad_2 9), .inl ((ca_3 9), 1500, .inl (fun _ => 0))), ((ad_2 10), .inr (2, [.ref (ad_2 11), .int 0, .int 0, .int 0, .int (-1), .int 0])), ((ad_2 11), .inr (6, [.ref (ad_2 9), .int 0, .int 0, .int 0, .ref (ad_2 12), .ref (ad_2 13), .ref (ad_2 14)])), ((ad_2 12), .inl ((ca_3 12), 1501, .inl (fun _ => 0))), ((ad_2 13), .inl ((ca_3 13), 1501, .inl (fun _ => 0))), ((ad_2 14), .inl ((ca_3 14), 1501, .inl (fun _ => 0))), ((ad_2 15), .inl ((ca_3 15), 8, .inr (.inr (.inr (.inr (fun _ => none)))))), ((ad_2 16), .inr (4, [.ref (ad_2 0), .int 0, .int (-1), .int 0, .int 0, .int 0, .int 0, .int 0])), ((ad_2 17), .inr (1, [.ref (ad_2 0), .ref (ad_2 18), .ref (ad_2 25), .int 0, .int 0, .int 0, .ref (ad_2 26), .ref (ad_2 27), .ref (ad_2 28)])), ((ad_2 18), .inl ((ca_3 18), 6, .inr (.inr (.inr (.inr fp_5))))), ((ad_2 19), .inr (7, [.int 0, .int 0, .int 0, .int 0, .int 2, .int 0, .int 0, .int (-2)])), ((ad_2 20), .inr (7, [.int 1, .int 0, .int 0, .int 0, .int 2, .int 0, .int 0, .int (-2)])), ((ad_2 21), .inr (7, [.int 2, .int 0, .int 0, .int 0, .int 2, .int 0, .int 0, .int (-2)])), ((ad_2 22), .inr (7, [.int 3, .int 0, .int 0, .int 0, .int 2, .int 0, .int 0, .int (-2)])), ((ad_2 23), .inr (7, [.int 4, .int 0, .int 0, .int 0, .int 2, .int 0, .int 0, .int (-2)])), ((ad_2 24), .inr (7, [.int 5, .int 0, .int 0, .int 0, .int 2, .int 0, .int 0, .int (-2)])), ((ad_2 25), .inr (0, [.int 0, .int 1, .int 0, .int 0, .int 0, .int (-1), .int 0, .int 0])), ((ad_2 26), .inl ((ca_3 26), 3, .inl (fun _ => 0))), ((ad_2 27), .inl ((ca_3 27), 3, .inl (fun _ => 0))), ((ad_2 28), .inl ((ca_3 28), 3, .inl (fun _ => 0))), (q_7, .inr (10, [.int 0, .int 0, .int 0, .int 0, .ref (md_8 4), .ref (md_8 5), .ref (md_8 6), .ref (md_8 7), .ref (md_8 8), .ref (md_8 9), .ref (md_8 10), .ref (md_8 11), .int 0, .ref (md_8 13), .ref (md_8 14), .ref (md_8 15), .ref (md_8 16), .ref (md_8 17), .ref (md_8 18), .ref (md_8 19), .int 0, .int 0, .int 0, .int 0, .int (-1), .int 0, .ref (md_8 26), .ref (md_8 27), .ref (md_8 28), .ref (md_8 29), .ref (md_8 30), .ref (md_8 31), .ref (md_8 32), .ref (md_8 33), .ref (md_8 34), .ref (md_8 35), .int 0, .int 0, .int 0, .int 0, .int 0, .int 0, .int 0, .int 0, .int (-1), .int 0, .int 0, .ref (md_8 47), .ref (md_8 48), .ref (md_8 49), .ref (md_8 50)])), ((md_8 4), .inl ((mq_9 4), 6, .inl (fun _ => 0))), ((md_8 5), .inl ((mq_9 5), 6, .inl (fun _ => 0))), ((md_8 6), .inl ((mq_9 6), 6, .inl (fun _ => 0))), ((md_8 7), .inl ((mq_9 7), 6, .inl fs_10)), ((md_8 8), .inl ((mq_9 8), 6, .inl (fun _ => 0))), ((md_8 9), .inl ((mq_9 9), 6, .inl (fun _ => 0))), ((md_8 10), .inl ((mq_9 10), 6, .inl (fun _ => 0))), ((md_8 11), .inl ((mq_9 11), 6, .inl (fun _ => 0))), ((md_8 13), .inl ((mq_9 13), 30, .inl (fun _ => 0))), ((md_8 14), .inl ((mq_9 14), 30, .inl (fun _ => 0))), ((md_8 15), .inl ((mq_9 15), 30, .inl (fun _ => 0))), ((md_8 16), .inl ((mq_9 16), 30, .inl fd_11)), ((md_8 17), .inl ((mq_9 17), 30, .inl (fun _ => 0))), ((md_8 18), .inl ((mq_9 18), 30, .inl (fun _ => 0))), ((md_8 19), .inl ((mq_9 19), 1500, .inl (fun _ => 0))), ((md_8 26), .inl ((mq_9 26), 2700, .inl (fun _ => 0))), ((md_8 27), .inl ((mq_9 27), 2700, .inl (fun _ => 0))), ((md_8 28), .inl ((mq_9 28), 2700, .inl (fun _ => 0))), ((md_8 29), .inl ((mq_9 29), 2700, .inl (fun _ => 0))), ((md_8 30), .inl ((mq_9 30), 2700, .inl (fun _ => 0))), ((md_8 31), .inl ((mq_9 31), 2700, .inl (fun _ => 0))), ((md_8 32), .inl ((mq_9 32), 2700, .inl (fun _ => 0))), ((md_8 33), .inl ((mq_9 33), 2700, .inl (fun _ => 0))), ((md_8 34), .inl ((mq_9 34), 8, .inl ff_12)), ((md_8 35), .inl ((mq_9 35), 8, .inl (fun _ => 0))), ((md_8 47), .inl ((mq_9 47), 3, .inl (fun _ => 0))), ((md_8 48), .inl ((mq_9 48), 3, .inl (fun _ => 0))), ((md_8 49), .inl ((mq_9 49), 3, .inl (fun _ => 0))), ((md_8 50), .inl ((mq_9 50), 104, .inl (fun _ => 0)))] := hD
  have hK : va_K (dC, dI) vwCl [((ca_3 1), .object "VatHouse$Vat"), ((ca_3 8), .object "VatHouse$Cloth"), ((ca_3 9), .byte), ((ca_3 12), .int), ((ca_3 13), .int), ((ca_3 14), .int), ((ca_3 15), .object "VatHouse$Recipe"), ((ca_3 18), .object "VatHouse$Vat"), ((ca_3 26), .int), ((ca_3 27), .int), ((ca_3 28), .int), ((mq_9 4), .int), ((mq_9 5), .int), ((mq_9 6), .int), ((mq_9 7), .int), ((mq_9 8), .int), ((mq_9 9), .int), ((mq_9 10), .boolean), ((mq_9 11), .boolean), ((mq_9 13), .int), ((mq_9 14), .int), ((mq_9 15), .int), ((mq_9 16), .int), ((mq_9 17), .int), ((mq_9 18), .int), ((mq_9 19), .int), ((mq_9 26), .int), ((mq_9 27), .int), ((mq_9 28), .int), ((mq_9 29), .int), ((mq_9 30), .int), ((mq_9 31), .int), ((mq_9 32), .int), ((mq_9 33), .int), ((mq_9 34), .int), ((mq_9 35), .int), ((mq_9 47), .int), ((mq_9 48), .int), ((mq_9 49), .int), ((mq_9 50), .int)] s := hK
  refine W.eq (g2 := F0 m 15 ls [.ref q_7]) rfl ?_
  refine lv_astore_n (lv' := [(2, .ref q_7), (1, .ref q_1), (0, .ref b)]) hx hb dL_law_15 rfl hl (by decide) rfl (fun ls hl => ?_)
  refine lv_iconst (v := 1) hx hb dL_law_16 (by decide) ?_
  refine va_newa (atype := .long) (ty := .long) (N' := 1) (a0 := (1, .inr (.inl (fun _ => 0)))) hx hb (hts (.arrayClass .long) (gt_t6 (List.mem_of_getElem? (i := 162) (by exact rfl)))) rfl hK hP hD hS hA (fun cA => vp_cell_l cA _ _) (by decide) (by decide) (by decide) (Nat.le_of_ble_eq_true rfl) (Nat.le_of_ble_eq_true rfl) dL_law_17 (fun q_14 cA_15 H hK hP hD hS => ?_)
  have hP : va_P (dC, dI) vwCl [(q_1, .inr (9, [.ref (ad_2 0), .ref (ad_2 8), .int 0, .int 0, .ref (ad_2 9), .int 0, .ref (ad_2 10), .ref (ad_2 15), .int 0, .ref (ad_2 16), .ref (ad_2 17)])), ((ad_2 0), .inr (8, [.ref (ad_2 1), .int 0, .int 0])), ((ad_2 1), .inl ((ca_3 1), 6, .inr (.inr (.inr (.inr fv_4))))), ((ad_2 2), .inr (7, [.int 0, .int 0, .int 0, .int 0, .int 2, .int 0, .int 0, .int (-2)])), ((ad_2 3), .inr (7, [.int 1, .int 0, .int 0, .int 0, .int 2, .int 0, .int 0, .int (-2)])), ((ad_2 4), .inr (7, [.int 2, .int 0, .int 0, .int 0, .int 2, .int 0, .int 0, .int (-2)])), ((ad_2 5), .inr (7, [.int 3, .int 0, .int 0, .int 0, .int 2, .int 0, .int 0, .int (-2)])), ((ad_2 6), .inr (7, [.int 4, .int 0, .int 0, .int 0, .int 2, .int 0, .int 0, .int (-2)])), ((ad_2 7), .inr (7, [.int 5, .int 0, .int 0, .int 0, .int 2, .int 0, .int 0, .int (-2)])), ((ad_2 8), .inl ((ca_3 8), 30, .inr (.inr (.inr (.inr (fun _ => none)))))), ((ad_2 9), .inl ((ca_3 9), 1500, .inl (fun _ => 0))), ((ad_2 10), .inr (2, [.ref (ad_2 11), .int 0, .int 0, .int 0, .int (-1), .int 0])), ((ad_2 11), .inr (6, [.ref (ad_2 9), .int 0, .int 0, .int 0, .ref (ad_2 12), .ref (ad_2 13), .ref (ad_2 14)])), ((ad_2 12), .inl ((ca_3 12), 1501, .inl (fun _ => 0))), ((ad_2 13), .inl ((ca_3 13), 1501, .inl (fun _ => 0))), ((ad_2 14), .inl ((ca_3 14), 1501, .inl (fun _ => 0))), ((ad_2 15), .inl ((ca_3 15), 8, .inr (.inr (.inr (.inr (fun _ => none)))))), ((ad_2 16), .inr (4, [.ref (ad_2 0), .int 0, .int (-1), .int 0, .int 0, .int 0, .int 0, .int 0])), ((ad_2 17), .inr (1, [.ref (ad_2 0), .ref (ad_2 18), .ref (ad_2 25), .int 0, .int 0, .int 0, .ref (ad_2 26), .ref (ad_2 27), .ref (ad_2 28)])), ((ad_2 18), .inl ((ca_3 18), 6, .inr (.inr (.inr (.inr fp_5))))), ((ad_2 19), .inr (7, [.int 0, .int 0, .int 0, .int 0, .int 2, .int 0, .int 0, .int (-2)])), ((ad_2 20), .inr (7, [.int 1, .int 0, .int 0, .int 0, .int 2, .int 0, .int 0, .int (-2)])), ((ad_2 21), .inr (7, [.int 2, .int 0, .int 0, .int 0, .int 2, .int 0, .int 0, .int (-2)])), ((ad_2 22), .inr (7, [.int 3, .int 0, .int 0, .int 0, .int 2, .int 0, .int 0, .int (-2)])), ((ad_2 23), .inr (7, [.int 4, .int 0, .int 0, .int 0, .int 2, .int 0, .int 0, .int (-2)])), ((ad_2 24), .inr (7, [.int 5, .int 0, .int 0, .int 0, .int 2, .int 0, .int 0, .int (-2)])), ((ad_2 25), .inr (0, [.int 0, .int 1, .int 0, .int 0, .int 0, .int (-1), .int 0, .int 0])), ((ad_2 26), .inl ((ca_3 26), 3, .inl (fun _ => 0))), ((ad_2 27), .inl ((ca_3 27), 3, .inl (fun _ => 0))), ((ad_2 28), .inl ((ca_3 28), 3, .inl (fun _ => 0))), (q_7, .inr (10, [.int 0, .int 0, .int 0, .int 0, .ref (md_8 4), .ref (md_8 5), .ref (md_8 6), .ref (md_8 7), .ref (md_8 8), .ref (md_8 9), .ref (md_8 10), .ref (md_8 11), .int 0, .ref (md_8 13), .ref (md_8 14), .ref (md_8 15), .ref (md_8 16), .ref (md_8 17), .ref (md_8 18), .ref (md_8 19), .int 0, .int 0, .int 0, .int 0, .int (-1), .int 0, .ref (md_8 26), .ref (md_8 27), .ref (md_8 28), .ref (md_8 29), .ref (md_8 30), .ref (md_8 31), .ref (md_8 32), .ref (md_8 33), .ref (md_8 34), .ref (md_8 35), .int 0, .int 0, .int 0, .int 0, .int 0, .int 0, .int 0, .int 0, .int (-1), .int 0, .int 0, .ref (md_8 47), .ref (md_8 48), .ref (md_8 49), .ref (md_8 50)])), ((md_8 4), .inl ((mq_9 4), 6, .inl (fun _ => 0))), ((md_8 5), .inl ((mq_9 5), 6, .inl (fun _ => 0))), ((md_8 6), .inl ((mq_9 6), 6, .inl (fun _ => 0))), ((md_8 7), .inl ((mq_9 7), 6, .inl fs_10)), ((md_8 8), .inl ((mq_9 8), 6, .inl (fun _ => 0))), ((md_8 9), .inl ((mq_9 9), 6, .inl (fun _ => 0))), ((md_8 10), .inl ((mq_9 10), 6, .inl (fun _ => 0))), ((md_8 11), .inl ((mq_9 11), 6, .inl (fun _ => 0))), ((md_8 13), .inl ((mq_9 13), 30, .inl (fun _ => 0))), ((md_8 14), .inl ((mq_9 14), 30, .inl (fun _ => 0))), ((md_8 15), .inl ((mq_9 15), 30, .inl (fun _ => 0))), ((md_8 16), .inl ((mq_9 16), 30, .inl fd_11)), ((md_8 17), .inl ((mq_9 17), 30, .inl (fun _ => 0))), ((md_8 18), .inl ((mq_9 18), 30, .inl (fun _ => 0))), ((md_8 19), .inl ((mq_9 19), 1500, .inl (fun _ => 0))), ((md_8 26), .inl ((mq_9 26), 2700, .inl (fun _ => 0))), ((md_8 27), .inl ((mq_9 27), 2700, .inl (fun _ => 0))), ((md_8 28), .inl ((mq_9 28), 2700, .inl (fun _ => 0))), ((md_8 29), .inl ((mq_9 29), 2700, .inl (fun _ => 0))), ((md_8 30), .inl ((mq_9 30), 2700, .inl (fun _ => 0))), ((md_8 31), .inl ((mq_9 31), 2700, .inl (fun _ => 0))), ((md_8 32), .inl ((mq_9 32), 2700, .inl (fun _ => 0))), ((md_8 33), .inl ((mq_9 33), 2700, .inl (fun _ => 0))), ((md_8 34), .inl ((mq_9 34), 8, .inl ff_12)), ((md_8 35), .inl ((mq_9 35), 8, .inl (fun _ => 0))), ((md_8 47), .inl ((mq_9 47), 3, .inl (fun _ => 0))), ((md_8 48), .inl ((mq_9 48), 3, .inl (fun _ => 0))), ((md_8 49), .inl ((mq_9 49), 3, .inl (fun _ => 0))), ((md_8 50), .inl ((mq_9 50), 104, .inl (fun _ => 0))), (q_14, .inl (cA_15, 1, .inr (.inl (fun _ => 0))))] _ := hP
  have hD : va_D _ [(q_1, .inr (9, [.ref (ad_2 0), .ref (ad_2 8), .int 0, .int 0, .ref (ad_2 9), .int 0, .ref (ad_2 10), .ref (ad_2 15), .int 0, .ref (ad_2 16), .ref (ad_2 17)])), ((ad_2 0), .inr (8, [.ref (ad_2 1), .int 0, .int 0])), ((ad_2 1), .inl ((ca_3 1), 6, .inr (.inr (.inr (.inr fv_4))))), ((ad_2 2), .inr (7, [.int 0, .int 0, .int 0, .int 0, .int 2, .int 0, .int 0, .int (-2)])), ((ad_2 3), .inr (7, [.int 1, .int 0, .int 0, .int 0, .int 2, .int 0, .int 0, .int (-2)])), ((ad_2 4), .inr (7, [.int 2, .int 0, .int 0, .int 0, .int 2, .int 0, .int 0, .int (-2)])), ((ad_2 5), .inr (7, [.int 3, .int 0, .int 0, .int 0, .int 2, .int 0, .int 0, .int (-2)])), ((ad_2 6), .inr (7, [.int 4, .int 0, .int 0, .int 0, .int 2, .int 0, .int 0, .int (-2)])), ((ad_2 7), .inr (7, [.int 5, .int 0, .int 0, .int 0, .int 2, .int 0, .int 0, .int (-2)])), ((ad_2 8), .inl ((ca_3 8), 30, .inr (.inr (.inr (.inr (fun _ => none)))))), ((ad_2 9), .inl ((ca_3 9), 1500, .inl (fun _ => 0))), ((ad_2 10), .inr (2, [.ref (ad_2 11), .int 0, .int 0, .int 0, .int (-1), .int 0])), ((ad_2 11), .inr (6, [.ref (ad_2 9), .int 0, .int 0, .int 0, .ref (ad_2 12), .ref (ad_2 13), .ref (ad_2 14)])), ((ad_2 12), .inl ((ca_3 12), 1501, .inl (fun _ => 0))), ((ad_2 13), .inl ((ca_3 13), 1501, .inl (fun _ => 0))), ((ad_2 14), .inl ((ca_3 14), 1501, .inl (fun _ => 0))), ((ad_2 15), .inl ((ca_3 15), 8, .inr (.inr (.inr (.inr (fun _ => none)))))), ((ad_2 16), .inr (4, [.ref (ad_2 0), .int 0, .int (-1), .int 0, .int 0, .int 0, .int 0, .int 0])), ((ad_2 17), .inr (1, [.ref (ad_2 0), .ref (ad_2 18), .ref (ad_2 25), .int 0, .int 0, .int 0, .ref (ad_2 26), .ref (ad_2 27), .ref (ad_2 28)])), ((ad_2 18), .inl ((ca_3 18), 6, .inr (.inr (.inr (.inr fp_5))))), ((ad_2 19), .inr (7, [.int 0, .int 0, .int 0, .int 0, .int 2, .int 0, .int 0, .int (-2)])), ((ad_2 20), .inr (7, [.int 1, .int 0, .int 0, .int 0, .int 2, .int 0, .int 0, .int (-2)])), ((ad_2 21), .inr (7, [.int 2, .int 0, .int 0, .int 0, .int 2, .int 0, .int 0, .int (-2)])), ((ad_2 22), .inr (7, [.int 3, .int 0, .int 0, .int 0, .int 2, .int 0, .int 0, .int (-2)])), ((ad_2 23), .inr (7, [.int 4, .int 0, .int 0, .int 0, .int 2, .int 0, .int 0, .int (-2)])), ((ad_2 24), .inr (7, [.int 5, .int 0, .int 0, .int 0, .int 2, .int 0, .int 0, .int (-2)])), ((ad_2 25), .inr (0, [.int 0, .int 1, .int 0, .int 0, .int 0, .int (-1), .int 0, .int 0])), ((ad_2 26), .inl ((ca_3 26), 3, .inl (fun _ => 0))), ((ad_2 27), .inl ((ca_3 27), 3, .inl (fun _ => 0))), ((ad_2 28), .inl ((ca_3 28), 3, .inl (fun _ => 0))), (q_7, .inr (10, [.int 0, .int 0, .int 0, .int 0, .ref (md_8 4), .ref (md_8 5), .ref (md_8 6), .ref (md_8 7), .ref (md_8 8), .ref (md_8 9), .ref (md_8 10), .ref (md_8 11), .int 0, .ref (md_8 13), .ref (md_8 14), .ref (md_8 15), .ref (md_8 16), .ref (md_8 17), .ref (md_8 18), .ref (md_8 19), .int 0, .int 0, .int 0, .int 0, .int (-1), .int 0, .ref (md_8 26), .ref (md_8 27), .ref (md_8 28), .ref (md_8 29), .ref (md_8 30), .ref (md_8 31), .ref (md_8 32), .ref (md_8 33), .ref (md_8 34), .ref (md_8 35), .int 0, .int 0, .int 0, .int 0, .int 0, .int 0, .int 0, .int 0, .int (-1), .int 0, .int 0, .ref (md_8 47), .ref (md_8 48), .ref (md_8 49), .ref (md_8 50)])), ((md_8 4), .inl ((mq_9 4), 6, .inl (fun _ => 0))), ((md_8 5), .inl ((mq_9 5), 6, .inl (fun _ => 0))), ((md_8 6), .inl ((mq_9 6), 6, .inl (fun _ => 0))), ((md_8 7), .inl ((mq_9 7), 6, .inl fs_10)), ((md_8 8), .inl ((mq_9 8), 6, .inl (fun _ => 0))), ((md_8 9), .inl ((mq_9 9), 6, .inl (fun _ => 0))), ((md_8 10), .inl ((mq_9 10), 6, .inl (fun _ => 0))), ((md_8 11), .inl ((mq_9 11), 6, .inl (fun _ => 0))), ((md_8 13), .inl ((mq_9 13), 30, .inl (fun _ => 0))), ((md_8 14), .inl ((mq_9 14), 30, .inl (fun _ => 0))), ((md_8 15), .inl ((mq_9 15), 30, .inl (fun _ => 0))), ((md_8 16), .inl ((mq_9 16), 30, .inl fd_11)), ((md_8 17), .inl ((mq_9 17), 30, .inl (fun _ => 0))), ((md_8 18), .inl ((mq_9 18), 30, .inl (fun _ => 0))), ((md_8 19), .inl ((mq_9 19), 1500, .inl (fun _ => 0))), ((md_8 26), .inl ((mq_9 26), 2700, .inl (fun _ => 0))), ((md_8 27), .inl ((mq_9 27), 2700, .inl (fun _ => 0))), ((md_8 28), .inl ((mq_9 28), 2700, .inl (fun _ => 0))), ((md_8 29), .inl ((mq_9 29), 2700, .inl (fun _ => 0))), ((md_8 30), .inl ((mq_9 30), 2700, .inl (fun _ => 0))), ((md_8 31), .inl ((mq_9 31), 2700, .inl (fun _ => 0))), ((md_8 32), .inl ((mq_9 32), 2700, .inl (fun _ => 0))), ((md_8 33), .inl ((mq_9 33), 2700, .inl (fun _ => 0))), ((md_8 34), .inl ((mq_9 34), 8, .inl ff_12)), ((md_8 35), .inl ((mq_9 35), 8, .inl (fun _ => 0))), ((md_8 47), .inl ((mq_9 47), 3, .inl (fun _ => 0))), ((md_8 48), .inl ((mq_9 48), 3, .inl (fun _ => 0))), ((md_8 49), .inl ((mq_9 49), 3, .inl (fun _ => 0))), ((md_8 50), .inl ((mq_9 50), 104, .inl (fun _ => 0))), (q_14, .inl (cA_15, 1, .inr (.inl (fun _ => 0))))] := hD
  have hK : va_K (dC, dI) vwCl [((ca_3 1), .object "VatHouse$Vat"), ((ca_3 8), .object "VatHouse$Cloth"), ((ca_3 9), .byte), ((ca_3 12), .int), ((ca_3 13), .int), ((ca_3 14), .int), ((ca_3 15), .object "VatHouse$Recipe"), ((ca_3 18), .object "VatHouse$Vat"), ((ca_3 26), .int), ((ca_3 27), .int), ((ca_3 28), .int), ((mq_9 4), .int), ((mq_9 5), .int), ((mq_9 6), .int), ((mq_9 7), .int), ((mq_9 8), .int), ((mq_9 9), .int), ((mq_9 10), .boolean), ((mq_9 11), .boolean), ((mq_9 13), .int), ((mq_9 14), .int), ((mq_9 15), .int), ((mq_9 16), .int), ((mq_9 17), .int), ((mq_9 18), .int), ((mq_9 19), .int), ((mq_9 26), .int), ((mq_9 27), .int), ((mq_9 28), .int), ((mq_9 29), .int), ((mq_9 30), .int), ((mq_9 31), .int), ((mq_9 32), .int), ((mq_9 33), .int), ((mq_9 34), .int), ((mq_9 35), .int), ((mq_9 47), .int), ((mq_9 48), .int), ((mq_9 49), .int), ((mq_9 50), .int), (cA_15, .long)] s := hK
  refine lv_astore_n (lv' := [(3, .ref q_14), (2, .ref q_7), (1, .ref q_1), (0, .ref b)]) hx hb dL_law_19 rfl hl (by decide) rfl (fun ls hl => ?_)
  have hP : va_P (dC, dI) vwCl ((hcs q_1 ad_2 ca_3 fv_4 fp_5 ++ [(q_14, .inl (cA_15, 1, .inr (.inl (fun _ => 0))))]) ++ mw mq_9 q_7 md_8 mi0 (ma0 fs_10 fd_11 ff_12)) _ := hP.sub [0, 1, 2, 3, 4, 5, 6, 7, 8, 9, 10, 11, 12, 13, 14, 15, 16, 17, 18, 19, 20, 21, 22, 23, 24, 25, 26, 27, 28, 29, 60, 30, 31, 32, 33, 34, 35, 36, 37, 38, 39, 40, 41, 42, 43, 44, 45, 46, 47, 48, 49, 50, 51, 52, 53, 54, 55, 56, 57, 58, 59] rfl
  have hD : va_D _ ((hcs q_1 ad_2 ca_3 fv_4 fp_5 ++ [(q_14, .inl (cA_15, 1, .inr (.inl (fun _ => 0))))]) ++ mw mq_9 q_7 md_8 mi0 (ma0 fs_10 fd_11 ff_12)) := hD.sub [0, 1, 2, 3, 4, 5, 6, 7, 8, 9, 10, 11, 12, 13, 14, 15, 16, 17, 18, 19, 20, 21, 22, 23, 24, 25, 26, 27, 28, 29, 60, 30, 31, 32, 33, 34, 35, 36, 37, 38, 39, 40, 41, 42, 43, 44, 45, 46, 47, 48, 49, 50, 51, 52, 53, 54, 55, 56, 57, 58, 59] rfl rfl
  have hK : va_K (dC, dI) vwCl (tyG (hgf ca_3) ++ [(cA_15, .long)] ++ tyM mq_9) s := hK.sub [3, 2, 0, 1, 6, 4, 5, 8, 9, 10, 7, 40, 11, 12, 13, 14, 15, 16, 17, 18, 19, 20, 21, 22, 23, 24, 25, 26, 27, 28, 29, 30, 31, 32, 33, 34, 35, 36, 37, 38, 39] rfl
  have hgd : gd (hgf ca_3) := ⟨fun e9 => absurd (arr_ty (t := .object "VatHouse$Vat") (t2 := .object "VatHouse$Cloth") (hK.2 2 _ rfl).1 (e9 ▸ (hK.2 3 _ rfl).1)) (by decide), fun e9 => absurd (arr_ty (t := .object "VatHouse$Vat") (t2 := .object "VatHouse$Recipe") (hK.2 2 _ rfl).1 (e9 ▸ (hK.2 4 _ rfl).1)) (by decide), fun e9 => absurd (arr_ty (t := .object "VatHouse$Cloth") (t2 := .object "VatHouse$Recipe") (hK.2 3 _ rfl).1 (e9 ▸ (hK.2 4 _ rfl).1)) (by decide), fun e9 => absurd (arr_ty (t := .object "VatHouse$Vat") (t2 := .object "VatHouse$Cloth") (hK.2 10 _ rfl).1 (e9 ▸ (hK.2 3 _ rfl).1)) (by decide), fun e9 => absurd (arr_ty (t := .object "VatHouse$Vat") (t2 := .object "VatHouse$Recipe") (hK.2 10 _ rfl).1 (e9 ▸ (hK.2 4 _ rfl).1)) (by decide)⟩
  obtain ⟨f, hpl, hfe⟩ := pl_of (app_lD (app_lD hD))
  have hpl : va_pl [q_1, (ad_2 0), (ad_2 1), (ad_2 2), (ad_2 3), (ad_2 4), (ad_2 5), (ad_2 6), (ad_2 7), (ad_2 8), (ad_2 9), (ad_2 10), (ad_2 11), (ad_2 12), (ad_2 13), (ad_2 14), (ad_2 15), (ad_2 16), (ad_2 17), (ad_2 18), (ad_2 19), (ad_2 20), (ad_2 21), (ad_2 22), (ad_2 23), (ad_2 24), (ad_2 25), (ad_2 26), (ad_2 27), (ad_2 28)] f = hcs q_1 ad_2 ca_3 fv_4 fp_5 := hpl
  have hds : ∀ k : Nat, k < 6 → ad_2 (2 + k) ∉ [ad_2 (19 + 0), ad_2 (19 + 1), ad_2 (19 + 2), ad_2 (19 + 3), ad_2 (19 + 4), ad_2 (19 + 5)] := by intro k hk hm9; simp only [List.mem_cons, List.not_mem_nil, or_false] at hm9; match k, hk with | 0, _ => rcases hm9 with e9 | e9 | e9 | e9 | e9 | e9; exact absurd (hD.1 3 20 _ _ rfl rfl e9) (by decide); exact absurd (hD.1 3 21 _ _ rfl rfl e9) (by decide); exact absurd (hD.1 3 22 _ _ rfl rfl e9) (by decide); exact absurd (hD.1 3 23 _ _ rfl rfl e9) (by decide); exact absurd (hD.1 3 24 _ _ rfl rfl e9) (by decide); exact absurd (hD.1 3 25 _ _ rfl rfl e9) (by decide) | 1, _ => rcases hm9 with e9 | e9 | e9 | e9 | e9 | e9; exact absurd (hD.1 4 20 _ _ rfl rfl e9) (by decide); exact absurd (hD.1 4 21 _ _ rfl rfl e9) (by decide); exact absurd (hD.1 4 22 _ _ rfl rfl e9) (by decide); exact absurd (hD.1 4 23 _ _ rfl rfl e9) (by decide); exact absurd (hD.1 4 24 _ _ rfl rfl e9) (by decide); exact absurd (hD.1 4 25 _ _ rfl rfl e9) (by decide) | 2, _ => rcases hm9 with e9 | e9 | e9 | e9 | e9 | e9; exact absurd (hD.1 5 20 _ _ rfl rfl e9) (by decide); exact absurd (hD.1 5 21 _ _ rfl rfl e9) (by decide); exact absurd (hD.1 5 22 _ _ rfl rfl e9) (by decide); exact absurd (hD.1 5 23 _ _ rfl rfl e9) (by decide); exact absurd (hD.1 5 24 _ _ rfl rfl e9) (by decide); exact absurd (hD.1 5 25 _ _ rfl rfl e9) (by decide) | 3, _ => rcases hm9 with e9 | e9 | e9 | e9 | e9 | e9; exact absurd (hD.1 6 20 _ _ rfl rfl e9) (by decide); exact absurd (hD.1 6 21 _ _ rfl rfl e9) (by decide); exact absurd (hD.1 6 22 _ _ rfl rfl e9) (by decide); exact absurd (hD.1 6 23 _ _ rfl rfl e9) (by decide); exact absurd (hD.1 6 24 _ _ rfl rfl e9) (by decide); exact absurd (hD.1 6 25 _ _ rfl rfl e9) (by decide) | 4, _ => rcases hm9 with e9 | e9 | e9 | e9 | e9 | e9; exact absurd (hD.1 7 20 _ _ rfl rfl e9) (by decide); exact absurd (hD.1 7 21 _ _ rfl rfl e9) (by decide); exact absurd (hD.1 7 22 _ _ rfl rfl e9) (by decide); exact absurd (hD.1 7 23 _ _ rfl rfl e9) (by decide); exact absurd (hD.1 7 24 _ _ rfl rfl e9) (by decide); exact absurd (hD.1 7 25 _ _ rfl rfl e9) (by decide) | 5, _ => rcases hm9 with e9 | e9 | e9 | e9 | e9 | e9; exact absurd (hD.1 8 20 _ _ rfl rfl e9) (by decide); exact absurd (hD.1 8 21 _ _ rfl rfl e9) (by decide); exact absurd (hD.1 8 22 _ _ rfl rfl e9) (by decide); exact absurd (hD.1 8 23 _ _ rfl rfl e9) (by decide); exact absurd (hD.1 8 24 _ _ rfl rfl e9) (by decide); exact absurd (hD.1 8 25 _ _ rfl rfl e9) (by decide) | n + 6, h => exact absurd h (by omega)
  obtain ⟨hT, hRF, hCN, hSR, h7, hPL, hrc⟩ := house_TP (fd := fd_11) (ff := ff_12) hw_6.1 hw_6.2 hgd hfe ⟨fun e9 => absurd (hD.1 13 14 _ _ rfl rfl e9) (by decide), fun e9 => absurd (hD.1 13 15 _ _ rfl rfl e9) (by decide), fun e9 => absurd (hD.1 14 15 _ _ rfl rfl e9) (by decide)⟩ hw_13.1.1 hds
  rw [← hpl] at hP hD
  refine W.widen (k := 200 + 303 * 0) (n := 40000 + 2415 * 0) (Nat.le_of_ble_eq_true rfl) (Nat.le_of_ble_eq_true rfl) ?_
  refine lv_iconst (v := 0) hx hb dL_law_20 (by decide) ?_
  refine lv_istore (lv' := [(4, .int 0), (3, .ref q_14), (2, .ref q_7), (1, .ref q_1), (0, .ref b)]) hx hb dL_law_21 hl (by decide) rfl (fun ls hl => ?_)
  exact law_loop (x0 := q_1) (rdr := (ad_2 10)) (tok := (ad_2 11)) (tp := (ad_2 9)) (ka := (ad_2 12)) (sta := (ad_2 13)) (vaa := (ad_2 14)) (wk := (ad_2 0)) (vs := (ad_2 1)) (cl := (ad_2 8)) (ru := (ad_2 16)) (pl := (ad_2 17)) (tvr := (ad_2 18)) (tc := (ad_2 25)) (rc := (ad_2 15)) (va := (fun k => ad_2 (2 + k))) (tv := (fun k => ad_2 (19 + k))) hlt C0 hL hev hK 512 0 _ f (fun _ => 0) mi0 (ma0 fs_10 fd_11 ff_12) _ _ _ (by omega) (by omega) ⟨hT, ⟨⟨hRF, _, hCN, mi0_20⟩, ⟨hSR, h7, hPL⟩, fun r9 h9 => Or.inl ⟨hw_13.2 r9 h9, hrc r9⟩⟩, (GI_new hw_13.1.2).mo (by decide), by decide, BI_zero hw_13.2, by decide⟩ hP hD hS (lv_sub hl [0, 1, 2, 3, 4] rfl)

set_option maxHeartbeats 4000000 in
theorem lw_walk (l : Launch) (hlt : l.stackTraces = false) (b : Addr) (xs : List Int32) : MetFree l x (headSpec (Jvm.Cond.code x code maxLocals ret :: tables_1) room_1) (lw_P b xs) (fun _ _ _ _ _ => True) lw_Q := by
  refine MetFree.of_bodyS (code := code) (maxLocals := maxLocals) (ret := ret) (by decide) ?_ ?_
  · intro args s m h hn
    obtain ⟨meth, c, h1, h2, h3, h4, h5, h6, -, -⟩ := Cond.code_spec hn (atoms_spec (ws := Jvm.Cond.code x code maxLocals ret :: tables_1) h _ List.mem_cons_self)
    exact ⟨meth, c, h1, h2, h3, h4, h5, h6⟩
  · intro p e s m args below meth c s₁ B hml0 hP _
    obtain ⟨rfl, hx, hbd, hgv⟩ := hP
    obtain ⟨scr, harrAt, hlist, hof, hsmall⟩ := hx
    obtain ⟨hcb, hkn, -, -⟩ := State.arrayAt?_spec harrAt
    have hown : s.vm.findClass R_law = some m.cls := findClass_of_methodNamed B.named
    have hts0 : ∀ c ∈ (Jvm.Cond.code x code maxLocals ret :: tables_1), c.before #[Value.ref b] s = true := atoms_spec (ws := Jvm.Cond.code x code maxLocals ret :: tables_1) B.pre
    have hts : ∀ w ∈ lw_tbl, w.before #[Value.ref b] s = true := k2_hts_sels lw_privs (fun w hw => hts0 w (List.mem_cons_of_mem _ hw)) lw_privs_ok
    have hml : c.maxLocals = 7 := B.maxLocals_eq (hts0 _ List.mem_cons_self)
    have X₀ : Stand p l e room_1 s m #[Value.ref b] below meth c s₁ [] 0 0 := Stand.of_body B
    have hh0 : s₁.heap = s.heap := by rw [B.state]; rfl
    have hsz : scr.slots.size = xs.length := by rw [← Array.length_toList, hlist, List.length_map]
    have hval : ∀ j : Nat, j < xs.length → scr.slots[j]? = some (.int (xs.getD j 0)) := fun j hj => by
      rw [← Array.getElem?_toList, hlist]
      simp [hj]
    have hbl : b < s.heap.size := (Array.getElem?_eq_some_iff.mp hcb).1
    have hX : va_X b xs.length (fun j => xs.getD j 0) s s.heap := ⟨scr, hcb, hof, hkn, hsz, hval⟩
    have K : W p l e room_1 s m #[Value.ref b] below meth c s₁.heap [] 0 0 (lw_Z below #[Value.ref b] s) (entryFrame m ([Value.ref b] : List Value).toArray 7) := by
      rw [hh0]
      exact whole_start l hlt hbd ⟨B.exec, B.bytes, B.returns, hml, hown, hts, hX, hbl, B.notSynchronized, hgv⟩
    obtain ⟨t, a1, o, b1, b2, b3⟩ := K s₁ rfl X₀
    exact ⟨t, o, a1, b1, b2, b3⟩
theorem lw_pre_spec {args : Array Value} {s : State} (h : (Jvm.Cond.and given_1 narrow_1).before args s = true) (hr : rest_1_c.before args s = true) : ∃ (b : Addr) (xs : List Int32), lw_P b xs args s := by
  have hs := flat_of_before _ h
  have hq := flat_of_before _ hr
  have hc : (Cond.count 1).before args s = true := hs _ (by decide +kernel)
  have harr : (Cond.arrayOf (.arg 0) .int).before args s = true := hs _ (by decide +kernel)
  have hle : (Cond.le (.length (.arg 0)) (.int 3072)).before args s = true := hs _ (by decide +kernel)
  have hlen : (Cond.isInt (.length (.arg 0))).before args s = true := hq _ (by decide +kernel)
  have hall : (Cond.all (.arg 0) (.isInt (.elem (.arg 0) (.index 0)))).before args s = true := hq _ (by decide +kernel)
  obtain ⟨b, xs, hb, hx⟩ := State.ints_of_pre rfl harr hlen hall
  have hsm : xs.length < 2 ^ 31 := hx.choose_spec.2.2.2
  have hev : (Term.length (.arg 0)).eval args s none [] s = some (.int xs.length.toInt32) := hx.length_eval hb
  have hv := Cond.le_ints hev (show (Term.int 3072).eval args s none [] s = some (.int 3072) from rfl)
  have hd : xs.length.toInt32 ≤ 3072 := by
    simpa [Cond.before, Cond.holds, hv] using hle
  have hN : xs.length ≤ 3072 := (Int32.ofNat_le_ofNat hsm (by decide)).mp (show Int32.ofNat xs.length ≤ Int32.ofNat 3072 from hd)
  exact ⟨b, xs, Cond.one_arg hc (show args[0]? = some (.ref b) from hb), hx, hN, h⟩
theorem lw_comes (l : Launch) (hlt : l.stackTraces = false) : Comes l x (Jvm.Cond.code x code maxLocals ret :: tables_1) room_1 (fun tb e args s => Calls_1 tb e args s ∧ rest_1 tb e args s ∧ Pre_1 tb e args s)
    (fun _ _ args s o t => lw_Q args s o t) := by
  intro p e ha hc hk s m args below hf hfit hheap happ hpre
  obtain ⟨b, xs, hP⟩ := lw_pre_spec hpre.2.2 hpre.2.1
  obtain ⟨k, o, h1, h2, h3, hQ⟩ := lw_walk l hlt b xs p e ha hc hk s m args below hf ((Spec.applies_iff_loose hf).mp happ).1 hP trivial
  exact ⟨k, o, h1, h2, h3, hQ⟩
theorem lw_frame {s t : State} {o : Outcome} {args : Array Value} (h : Framed s o t [] 601024 7293034) :
    Framed s o t (fieldLocs frame_1_writes args s ++ arrayLocs frame_1_arrays args s ++ staticLocs frame_1_statics s) 601024 7293034 := h
theorem lw_limb (L : Cond) (hL : ∀ (args : Array Value) (s t : State), L.after args s (.returned (some (.int 1))) t = true) :
    ArmFor flags0 classFile x code maxLocals ret World_1 tables_1 room_1 Calls_1 rest_1 Pre_1
      (fun tb e a s o t => postC L tb e a s o t ∧ Framed s o t (fieldLocs frame_1_writes a s ++ arrayLocs frame_1_arrays a s ++ staticLocs frame_1_statics s) 601024 7293034) := by
  intro l hfl _ _ p e ha hc hk s m args below hf hfit hheap happ hpre
  have hlt : l.stackTraces = false := by
    unfold Launch.stackTraces; rw [hfl]; decide
  obtain ⟨k, o, h1, h2, h3, rfl, hF⟩ := lw_comes l hlt p e ha hc hk s m args below hf hfit hheap happ hpre
  exact ⟨k, _, h1, h2, h3, hL args s _, lw_frame hF⟩
