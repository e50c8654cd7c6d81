noncomputable def tmS (i : Nat) : Term := .string (rowS.getD i ("", 0, "")).1 (rowS.getD i ("", 0, "")).2.1
noncomputable abbrev fl1 : List Cond := flatC (Jvm.Cond.and given_1 narrow_1)
set_option maxRecDepth 100000 in
theorem fl_ex : ∀ i : Nat, i < 20 → Cond.exactly (tmS i) "java/lang/String" ∈ fl1 := fun i hi => by
  match i, hi with
  | 0, _ => exact List.mem_of_getElem? (i := 227) (by decide +kernel)
  | 1, _ => exact List.mem_of_getElem? (i := 240) (by decide +kernel)
  | 2, _ => exact List.mem_of_getElem? (i := 254) (by decide +kernel)
  | 3, _ => exact List.mem_of_getElem? (i := 270) (by decide +kernel)
  | 4, _ => exact List.mem_of_getElem? (i := 287) (by decide +kernel)
  | 5, _ => exact List.mem_of_getElem? (i := 305) (by decide +kernel)
  | 6, _ => exact List.mem_of_getElem? (i := 324) (by decide +kernel)
  | 7, _ => exact List.mem_of_getElem? (i := 344) (by decide +kernel)
  | 8, _ => exact List.mem_of_getElem? (i := 366) (by decide +kernel)
  | 9, _ => exact List.mem_of_getElem? (i := 389) (by decide +kernel)
  | 10, _ => exact List.mem_of_getElem? (i := 410) (by decide +kernel)
  | 11, _ => exact List.mem_of_getElem? (i := 433) (by decide +kernel)
  | 12, _ => exact List.mem_of_getElem? (i := 456) (by decide +kernel)
  | 13, _ => exact List.mem_of_getElem? (i := 482) (by decide +kernel)
  | 14, _ => exact List.mem_of_getElem? (i := 509) (by decide +kernel)
  | 15, _ => exact List.mem_of_getElem? (i := 538) (by decide +kernel)
  | 16, _ => exact List.mem_of_getElem? (i := 568) (by decide +kernel)
  | 17, _ => exact List.mem_of_getElem? (i := 598) (by decide +kernel)
  | 18, _ => exact List.mem_of_getElem? (i := 631) (by decide +kernel)
  | 19, _ => exact List.mem_of_getElem? (i := 86) (by decide +kernel)
  | n + 20, h => exact absurd h (by omega)
set_option maxRecDepth 100000 in
theorem fl_co : ∀ i : Nat, i < 20 → Cond.eq (.field (tmS i) "java/lang/String" "coder" "B") (.int 0) ∈ fl1 := fun i hi => by
  match i, hi with
  | 0, _ => exact List.mem_of_getElem? (i := 228) (by decide +kernel)
  | 1, _ => exact List.mem_of_getElem? (i := 241) (by decide +kernel)
  | 2, _ => exact List.mem_of_getElem? (i := 255) (by decide +kernel)
  | 3, _ => exact List.mem_of_getElem? (i := 271) (by decide +kernel)
  | 4, _ => exact List.mem_of_getElem? (i := 288) (by decide +kernel)
  | 5, _ => exact List.mem_of_getElem? (i := 306) (by decide +kernel)
  | 6, _ => exact List.mem_of_getElem? (i := 325) (by decide +kernel)
  | 7, _ => exact List.mem_of_getElem? (i := 345) (by decide +kernel)
  | 8, _ => exact List.mem_of_getElem? (i := 367) (by decide +kernel)
  | 9, _ => exact List.mem_of_getElem? (i := 390) (by decide +kernel)
  | 10, _ => exact List.mem_of_getElem? (i := 411) (by decide +kernel)
  | 11, _ => exact List.mem_of_getElem? (i := 434) (by decide +kernel)
  | 12, _ => exact List.mem_of_getElem? (i := 457) (by decide +kernel)
  | 13, _ => exact List.mem_of_getElem? (i := 483) (by decide +kernel)
  | 14, _ => exact List.mem_of_getElem? (i := 510) (by decide +kernel)
  | 15, _ => exact List.mem_of_getElem? (i := 539) (by decide +kernel)
  | 16, _ => exact List.mem_of_getElem? (i := 569) (by decide +kernel)
  | 17, _ => exact List.mem_of_getElem? (i := 599) (by decide +kernel)
  | 18, _ => exact List.mem_of_getElem? (i := 632) (by decide +kernel)
  | 19, _ => exact List.mem_of_getElem? (i := 87) (by decide +kernel)
  | n + 20, h => exact absurd h (by omega)
set_option maxRecDepth 100000 in
theorem fl_ar : ∀ i : Nat, i < 20 → Cond.arrayOf (.field (tmS i) "java/lang/String" "value" "[B") .byte ∈ fl1 := fun i hi => by
  match i, hi with
  | 0, _ => exact List.mem_of_getElem? (i := 229) (by decide +kernel)
  | 1, _ => exact List.mem_of_getElem? (i := 242) (by decide +kernel)
  | 2, _ => exact List.mem_of_getElem? (i := 256) (by decide +kernel)
  | 3, _ => exact List.mem_of_getElem? (i := 272) (by decide +kernel)
  | 4, _ => exact List.mem_of_getElem? (i := 289) (by decide +kernel)
  | 5, _ => exact List.mem_of_getElem? (i := 307) (by decide +kernel)
  | 6, _ => exact List.mem_of_getElem? (i := 326) (by decide +kernel)
  | 7, _ => exact List.mem_of_getElem? (i := 346) (by decide +kernel)
  | 8, _ => exact List.mem_of_getElem? (i := 368) (by decide +kernel)
  | 9, _ => exact List.mem_of_getElem? (i := 391) (by decide +kernel)
  | 10, _ => exact List.mem_of_getElem? (i := 412) (by decide +kernel)
  | 11, _ => exact List.mem_of_getElem? (i := 435) (by decide +kernel)
  | 12, _ => exact List.mem_of_getElem? (i := 458) (by decide +kernel)
  | 13, _ => exact List.mem_of_getElem? (i := 484) (by decide +kernel)
  | 14, _ => exact List.mem_of_getElem? (i := 511) (by decide +kernel)
  | 15, _ => exact List.mem_of_getElem? (i := 540) (by decide +kernel)
  | 16, _ => exact List.mem_of_getElem? (i := 570) (by decide +kernel)
  | 17, _ => exact List.mem_of_getElem? (i := 600) (by decide +kernel)
  | 18, _ => exact List.mem_of_getElem? (i := 633) (by decide +kernel)
  | 19, _ => exact List.mem_of_getElem? (i := 88) (by decide +kernel)
  | n + 20, h => exact absurd h (by omega)
set_option maxRecDepth 100000 in
theorem fl_le : ∀ i : Nat, i < 20 → Cond.eq (.length (.field (tmS i) "java/lang/String" "value" "[B")) (.int (Int32.ofNat (lenS.getD i 0))) ∈ fl1 := fun i hi => by
  match i, hi with
  | 0, _ => exact List.mem_of_getElem? (i := 230) (by decide +kernel)
  | 1, _ => exact List.mem_of_getElem? (i := 243) (by decide +kernel)
  | 2, _ => exact List.mem_of_getElem? (i := 257) (by decide +kernel)
  | 3, _ => exact List.mem_of_getElem? (i := 273) (by decide +kernel)
  | 4, _ => exact List.mem_of_getElem? (i := 290) (by decide +kernel)
  | 5, _ => exact List.mem_of_getElem? (i := 308) (by decide +kernel)
  | 6, _ => exact List.mem_of_getElem? (i := 327) (by decide +kernel)
  | 7, _ => exact List.mem_of_getElem? (i := 347) (by decide +kernel)
  | 8, _ => exact List.mem_of_getElem? (i := 369) (by decide +kernel)
  | 9, _ => exact List.mem_of_getElem? (i := 392) (by decide +kernel)
  | 10, _ => exact List.mem_of_getElem? (i := 413) (by decide +kernel)
  | 11, _ => exact List.mem_of_getElem? (i := 436) (by decide +kernel)
  | 12, _ => exact List.mem_of_getElem? (i := 459) (by decide +kernel)
  | 13, _ => exact List.mem_of_getElem? (i := 485) (by decide +kernel)
  | 14, _ => exact List.mem_of_getElem? (i := 512) (by decide +kernel)
  | 15, _ => exact List.mem_of_getElem? (i := 541) (by decide +kernel)
  | 16, _ => exact List.mem_of_getElem? (i := 571) (by decide +kernel)
  | 17, _ => exact List.mem_of_getElem? (i := 601) (by decide +kernel)
  | 18, _ => exact List.mem_of_getElem? (i := 634) (by decide +kernel)
  | 19, _ => exact List.mem_of_getElem? (i := 89) (by decide +kernel)
  | n + 20, h => exact absurd h (by omega)
set_option maxRecDepth 100000 in
theorem fl_el0 : ∀ j : Nat, j < 3 → Cond.eq (.elem (.field (tmS 0) "java/lang/String" "value" "[B") (.int (Int32.ofNat j))) (.int ((bytS.getD 0 []).getD j 0)) ∈ fl1 := fun j hj => by
  match j, hj with
  | 0, _ => exact List.mem_of_getElem? (i := 231) (by decide +kernel)
  | 1, _ => exact List.mem_of_getElem? (i := 232) (by decide +kernel)
  | 2, _ => exact List.mem_of_getElem? (i := 233) (by decide +kernel)
  | n + 3, h => exact absurd h (by omega)
set_option maxRecDepth 100000 in
theorem fl_el1 : ∀ j : Nat, j < 3 → Cond.eq (.elem (.field (tmS 1) "java/lang/String" "value" "[B") (.int (Int32.ofNat j))) (.int ((bytS.getD 1 []).getD j 0)) ∈ fl1 := fun j hj => by
  match j, hj with
  | 0, _ => exact List.mem_of_getElem? (i := 244) (by decide +kernel)
  | 1, _ => exact List.mem_of_getElem? (i := 245) (by decide +kernel)
  | 2, _ => exact List.mem_of_getElem? (i := 246) (by decide +kernel)
  | n + 3, h => exact absurd h (by omega)
set_option maxRecDepth 100000 in
theorem fl_el2 : ∀ j : Nat, j < 4 → Cond.eq (.elem (.field (tmS 2) "java/lang/String" "value" "[B") (.int (Int32.ofNat j))) (.int ((bytS.getD 2 []).getD j 0)) ∈ fl1 := fun j hj => by
  match j, hj with
  | 0, _ => exact List.mem_of_getElem? (i := 258) (by decide +kernel)
  | 1, _ => exact List.mem_of_getElem? (i := 259) (by decide +kernel)
  | 2, _ => exact List.mem_of_getElem? (i := 260) (by decide +kernel)
  | 3, _ => exact List.mem_of_getElem? (i := 261) (by decide +kernel)
  | n + 4, h => exact absurd h (by omega)
set_option maxRecDepth 100000 in
theorem fl_el3 : ∀ j : Nat, j < 4 → Cond.eq (.elem (.field (tmS 3) "java/lang/String" "value" "[B") (.int (Int32.ofNat j))) (.int ((bytS.getD 3 []).getD j 0)) ∈ fl1 := fun j hj => by
  match j, hj with
  | 0, _ => exact List.mem_of_getElem? (i := 274) (by decide +kernel)
  | 1, _ => exact List.mem_of_getElem? (i := 275) (by decide +kernel)
  | 2, _ => exact List.mem_of_getElem? (i := 276) (by decide +kernel)
  | 3, _ => exact List.mem_of_getElem? (i := 277) (by decide +kernel)
  | n + 4, h => exact absurd h (by omega)
set_option maxRecDepth 100000 in
theorem fl_el4 : ∀ j : Nat, j < 4 → Cond.eq (.elem (.field (tmS 4) "java/lang/String" "value" "[B") (.int (Int32.ofNat j))) (.int ((bytS.getD 4 []).getD j 0)) ∈ fl1 := fun j hj => by
  match j, hj with
  | 0, _ => exact List.mem_of_getElem? (i := 291) (by decide +kernel)
  | 1, _ => exact List.mem_of_getElem? (i := 292) (by decide +kernel)
  | 2, _ => exact List.mem_of_getElem? (i := 293) (by decide +kernel)
  | 3, _ => exact List.mem_of_getElem? (i := 294) (by decide +kernel)
  | n + 4, h => exact absurd h (by omega)
set_option maxRecDepth 100000 in
theorem fl_el5 : ∀ j : Nat, j < 4 → Cond.eq (.elem (.field (tmS 5) "java/lang/String" "value" "[B") (.int (Int32.ofNat j))) (.int ((bytS.getD 5 []).getD j 0)) ∈ fl1 := fun j hj => by
  match j, hj with
  | 0, _ => exact List.mem_of_getElem? (i := 309) (by decide +kernel)
  | 1, _ => exact List.mem_of_getElem? (i := 310) (by decide +kernel)
  | 2, _ => exact List.mem_of_getElem? (i := 311) (by decide +kernel)
  | 3, _ => exact List.mem_of_getElem? (i := 312) (by decide +kernel)
  | n + 4, h => exact absurd h (by omega)
set_option maxRecDepth 100000 in
theorem fl_el6 : ∀ j : Nat, j < 4 → Cond.eq (.elem (.field (tmS 6) "java/lang/String" "value" "[B") (.int (Int32.ofNat j))) (.int ((bytS.getD 6 []).getD j 0)) ∈ fl1 := fun j hj => by
  match j, hj with
  | 0, _ => exact List.mem_of_getElem? (i := 328) (by decide +kernel)
  | 1, _ => exact List.mem_of_getElem? (i := 329) (by decide +kernel)
  | 2, _ => exact List.mem_of_getElem? (i := 330) (by decide +kernel)
  | 3, _ => exact List.mem_of_getElem? (i := 331) (by decide +kernel)
  | n + 4, h => exact absurd h (by omega)
set_option maxRecDepth 100000 in
theorem fl_el7 : ∀ j : Nat, j < 5 → Cond.eq (.elem (.field (tmS 7) "java/lang/String" "value" "[B") (.int (Int32.ofNat j))) (.int ((bytS.getD 7 []).getD j 0)) ∈ fl1 := fun j hj => by
  match j, hj with
  | 0, _ => exact List.mem_of_getElem? (i := 348) (by decide +kernel)
  | 1, _ => exact List.mem_of_getElem? (i := 349) (by decide +kernel)
  | 2, _ => exact List.mem_of_getElem? (i := 350) (by decide +kernel)
  | 3, _ => exact List.mem_of_getElem? (i := 351) (by decide +kernel)
  | 4, _ => exact List.mem_of_getElem? (i := 352) (by decide +kernel)
  | n + 5, h => exact absurd h (by omega)
set_option maxRecDepth 100000 in
theorem fl_el8 : ∀ j : Nat, j < 5 → Cond.eq (.elem (.field (tmS 8) "java/lang/String" "value" "[B") (.int (Int32.ofNat j))) (.int ((bytS.getD 8 []).getD j 0)) ∈ fl1 := fun j hj => by
  match j, hj with
  | 0, _ => exact List.mem_of_getElem? (i := 370) (by decide +kernel)
  | 1, _ => exact List.mem_of_getElem? (i := 371) (by decide +kernel)
  | 2, _ => exact List.mem_of_getElem? (i := 372) (by decide +kernel)
  | 3, _ => exact List.mem_of_getElem? (i := 373) (by decide +kernel)
  | 4, _ => exact List.mem_of_getElem? (i := 374) (by decide +kernel)
  | n + 5, h => exact absurd h (by omega)
set_option maxRecDepth 100000 in
theorem fl_el9 : ∀ j : Nat, j < 2 → Cond.eq (.elem (.field (tmS 9) "java/lang/String" "value" "[B") (.int (Int32.ofNat j))) (.int ((bytS.getD 9 []).getD j 0)) ∈ fl1 := fun j hj => by
  match j, hj with
  | 0, _ => exact List.mem_of_getElem? (i := 393) (by decide +kernel)
  | 1, _ => exact List.mem_of_getElem? (i := 394) (by decide +kernel)
  | n + 2, h => exact absurd h (by omega)
set_option maxRecDepth 100000 in
theorem fl_el10 : ∀ j : Nat, j < 3 → Cond.eq (.elem (.field (tmS 10) "java/lang/String" "value" "[B") (.int (Int32.ofNat j))) (.int ((bytS.getD 10 []).getD j 0)) ∈ fl1 := fun j hj => by
  match j, hj with
  | 0, _ => exact List.mem_of_getElem? (i := 414) (by decide +kernel)
  | 1, _ => exact List.mem_of_getElem? (i := 415) (by decide +kernel)
  | 2, _ => exact List.mem_of_getElem? (i := 416) (by decide +kernel)
  | n + 3, h => exact absurd h (by omega)
set_option maxRecDepth 100000 in
theorem fl_el11 : ∀ j : Nat, j < 2 → Cond.eq (.elem (.field (tmS 11) "java/lang/String" "value" "[B") (.int (Int32.ofNat j))) (.int ((bytS.getD 11 []).getD j 0)) ∈ fl1 := fun j hj => by
  match j, hj with
  | 0, _ => exact List.mem_of_getElem? (i := 437) (by decide +kernel)
  | 1, _ => exact List.mem_of_getElem? (i := 438) (by decide +kernel)
  | n + 2, h => exact absurd h (by omega)
set_option maxRecDepth 100000 in
theorem fl_el12 : ∀ j : Nat, j < 4 → Cond.eq (.elem (.field (tmS 12) "java/lang/String" "value" "[B") (.int (Int32.ofNat j))) (.int ((bytS.getD 12 []).getD j 0)) ∈ fl1 := fun j hj => by
  match j, hj with
  | 0, _ => exact List.mem_of_getElem? (i := 460) (by decide +kernel)
  | 1, _ => exact List.mem_of_getElem? (i := 461) (by decide +kernel)
  | 2, _ => exact List.mem_of_getElem? (i := 462) (by decide +kernel)
  | 3, _ => exact List.mem_of_getElem? (i := 463) (by decide +kernel)
  | n + 4, h => exact absurd h (by omega)
set_option maxRecDepth 100000 in
theorem fl_el13 : ∀ j : Nat, j < 4 → Cond.eq (.elem (.field (tmS 13) "java/lang/String" "value" "[B") (.int (Int32.ofNat j))) (.int ((bytS.getD 13 []).getD j 0)) ∈ fl1 := fun j hj => by
  match j, hj with
  | 0, _ => exact List.mem_of_getElem? (i := 486) (by decide +kernel)
  | 1, _ => exact List.mem_of_getElem? (i := 487) (by decide +kernel)
  | 2, _ => exact List.mem_of_getElem? (i := 488) (by decide +kernel)
  | 3, _ => exact List.mem_of_getElem? (i := 489) (by decide +kernel)
  | n + 4, h => exact absurd h (by omega)
set_option maxRecDepth 100000 in
theorem fl_el14 : ∀ j : Nat, j < 5 → Cond.eq (.elem (.field (tmS 14) "java/lang/String" "value" "[B") (.int (Int32.ofNat j))) (.int ((bytS.getD 14 []).getD j 0)) ∈ fl1 := fun j hj => by
  match j, hj with
  | 0, _ => exact List.mem_of_getElem? (i := 513) (by decide +kernel)
  | 1, _ => exact List.mem_of_getElem? (i := 514) (by decide +kernel)
  | 2, _ => exact List.mem_of_getElem? (i := 515) (by decide +kernel)
  | 3, _ => exact List.mem_of_getElem? (i := 516) (by decide +kernel)
  | 4, _ => exact List.mem_of_getElem? (i := 517) (by decide +kernel)
  | n + 5, h => exact absurd h (by omega)
set_option maxRecDepth 100000 in
theorem fl_el15 : ∀ j : Nat, j < 5 → Cond.eq (.elem (.field (tmS 15) "java/lang/String" "value" "[B") (.int (Int32.ofNat j))) (.int ((bytS.getD 15 []).getD j 0)) ∈ fl1 := fun j hj => by
  match j, hj with
  | 0, _ => exact List.mem_of_getElem? (i := 542) (by decide +kernel)
  | 1, _ => exact List.mem_of_getElem? (i := 543) (by decide +kernel)
  | 2, _ => exact List.mem_of_getElem? (i := 544) (by decide +kernel)
  | 3, _ => exact List.mem_of_getElem? (i := 545) (by decide +kernel)
  | 4, _ => exact List.mem_of_getElem? (i := 546) (by decide +kernel)
  | n + 5, h => exact absurd h (by omega)
set_option maxRecDepth 100000 in
theorem fl_el16 : ∀ j : Nat, j < 4 → Cond.eq (.elem (.field (tmS 16) "java/lang/String" "value" "[B") (.int (Int32.ofNat j))) (.int ((bytS.getD 16 []).getD j 0)) ∈ fl1 := fun j hj => by
  match j, hj with
  | 0, _ => exact List.mem_of_getElem? (i := 572) (by decide +kernel)
  | 1, _ => exact List.mem_of_getElem? (i := 573) (by decide +kernel)
  | 2, _ => exact List.mem_of_getElem? (i := 574) (by decide +kernel)
  | 3, _ => exact List.mem_of_getElem? (i := 575) (by decide +kernel)
  | n + 4, h => exact absurd h (by omega)
set_option maxRecDepth 100000 in
theorem fl_el17 : ∀ j : Nat, j < 6 → Cond.eq (.elem (.field (tmS 17) "java/lang/String" "value" "[B") (.int (Int32.ofNat j))) (.int ((bytS.getD 17 []).getD j 0)) ∈ fl1 := fun j hj => by
  match j, hj with
  | 0, _ => exact List.mem_of_getElem? (i := 602) (by decide +kernel)
  | 1, _ => exact List.mem_of_getElem? (i := 603) (by decide +kernel)
  | 2, _ => exact List.mem_of_getElem? (i := 604) (by decide +kernel)
  | 3, _ => exact List.mem_of_getElem? (i := 605) (by decide +kernel)
  | 4, _ => exact List.mem_of_getElem? (i := 606) (by decide +kernel)
  | 5, _ => exact List.mem_of_getElem? (i := 607) (by decide +kernel)
  | n + 6, h => exact absurd h (by omega)
set_option maxRecDepth 100000 in
theorem fl_el18 : ∀ j : Nat, j < 4 → Cond.eq (.elem (.field (tmS 18) "java/lang/String" "value" "[B") (.int (Int32.ofNat j))) (.int ((bytS.getD 18 []).getD j 0)) ∈ fl1 := fun j hj => by
  match j, hj with
  | 0, _ => exact List.mem_of_getElem? (i := 635) (by decide +kernel)
  | 1, _ => exact List.mem_of_getElem? (i := 636) (by decide +kernel)
  | 2, _ => exact List.mem_of_getElem? (i := 637) (by decide +kernel)
  | 3, _ => exact List.mem_of_getElem? (i := 638) (by decide +kernel)
  | n + 4, h => exact absurd h (by omega)
set_option maxRecDepth 100000 in
theorem fl_el19 : ∀ j : Nat, j < 94 → Cond.eq (.elem (.field (tmS 19) "java/lang/String" "value" "[B") (.int (Int32.ofNat j))) (.int ((bytS.getD 19 []).getD j 0)) ∈ fl1 := fun j hj => by
  match j, hj with
  | 0, _ => exact List.mem_of_getElem? (i := 90) (by decide +kernel)
  | 1, _ => exact List.mem_of_getElem? (i := 91) (by decide +kernel)
  | 2, _ => exact List.mem_of_getElem? (i := 92) (by decide +kernel)
  | 3, _ => exact List.mem_of_getElem? (i := 93) (by decide +kernel)
  | 4, _ => exact List.mem_of_getElem? (i := 94) (by decide +kernel)
  | 5, _ => exact List.mem_of_getElem? (i := 95) (by decide +kernel)
  | 6, _ => exact List.mem_of_getElem? (i := 96) (by decide +kernel)
  | 7, _ => exact List.mem_of_getElem? (i := 97) (by decide +kernel)
  | 8, _ => exact List.mem_of_getElem? (i := 98) (by decide +kernel)
  | 9, _ => exact List.mem_of_getElem? (i := 99) (by decide +kernel)
  | 10, _ => exact List.mem_of_getElem? (i := 100) (by decide +kernel)
  | 11, _ => exact List.mem_of_getElem? (i := 101) (by decide +kernel)
  | 12, _ => exact List.mem_of_getElem? (i := 102) (by decide +kernel)
  | 13, _ => exact List.mem_of_getElem? (i := 103) (by decide +kernel)
  | 14, _ => exact List.mem_of_getElem? (i := 104) (by decide +kernel)
  | 15, _ => exact List.mem_of_getElem? (i := 105) (by decide +kernel)
  | 16, _ => exact List.mem_of_getElem? (i := 106) (by decide +kernel)
  | 17, _ => exact List.mem_of_getElem? (i := 107) (by decide +kernel)
  | 18, _ => exact List.mem_of_getElem? (i := 108) (by decide +kernel)
  | 19, _ => exact List.mem_of_getElem? (i := 109) (by decide +kernel)
  | 20, _ => exact List.mem_of_getElem? (i := 110) (by decide +kernel)
  | 21, _ => exact List.mem_of_getElem? (i := 111) (by decide +kernel)
  | 22, _ => exact List.mem_of_getElem? (i := 112) (by decide +kernel)
  | 23, _ => exact List.mem_of_getElem? (i := 113) (by decide +kernel)
  | 24, _ => exact List.mem_of_getElem? (i := 114) (by decide +kernel)
  | 25, _ => exact List.mem_of_getElem? (i := 115) (by decide +kernel)
  | 26, _ => exact List.mem_of_getElem? (i := 116) (by decide +kernel)
  | 27, _ => exact List.mem_of_getElem? (i := 117) (by decide +kernel)
  | 28, _ => exact List.mem_of_getElem? (i := 118) (by decide +kernel)
  | 29, _ => exact List.mem_of_getElem? (i := 119) (by decide +kernel)
  | 30, _ => exact List.mem_of_getElem? (i := 120) (by decide +kernel)
  | 31, _ => exact List.mem_of_getElem? (i := 121) (by decide +kernel)
  | 32, _ => exact List.mem_of_getElem? (i := 122) (by decide +kernel)
  | 33, _ => exact List.mem_of_getElem? (i := 123) (by decide +kernel)
  | 34, _ => exact List.mem_of_getElem? (i := 124) (by decide +kernel)
  | 35, _ => exact List.mem_of_getElem? (i := 125) (by decide +kernel)
  | 36, _ => exact List.mem_of_getElem? (i := 126) (by decide +kernel)
  | 37, _ => exact List.mem_of_getElem? (i := 127) (by decide +kernel)
  | 38, _ => exact List.mem_of_getElem? (i := 128) (by decide +kernel)
  | 39, _ => exact List.mem_of_getElem? (i := 129) (by decide +kernel)
  | 40, _ => exact List.mem_of_getElem? (i := 130) (by decide +kernel)
  | 41, _ => exact List.mem_of_getElem? (i := 131) (by decide +kernel)
  | 42, _ => exact List.mem_of_getElem? (i := 132) (by decide +kernel)
  | 43, _ => exact List.mem_of_getElem? (i := 133) (by decide +kernel)
  | 44, _ => exact List.mem_of_getElem? (i := 134) (by decide +kernel)
  | 45, _ => exact List.mem_of_getElem? (i := 135) (by decide +kernel)
  | 46, _ => exact List.mem_of_getElem? (i := 136) (by decide +kernel)
  | 47, _ => exact List.mem_of_getElem? (i := 137) (by decide +kernel)
  | 48, _ => exact List.mem_of_getElem? (i := 138) (by decide +kernel)
  | 49, _ => exact List.mem_of_getElem? (i := 139) (by decide +kernel)
  | 50, _ => exact List.mem_of_getElem? (i := 140) (by decide +kernel)
  | 51, _ => exact List.mem_of_getElem? (i := 141) (by decide +kernel)
  | 52, _ => exact List.mem_of_getElem? (i := 142) (by decide +kernel)
  | 53, _ => exact List.mem_of_getElem? (i := 143) (by decide +kernel)
  | 54, _ => exact List.mem_of_getElem? (i := 144) (by decide +kernel)
  | 55, _ => exact List.mem_of_getElem? (i := 145) (by decide +kernel)
  | 56, _ => exact List.mem_of_getElem? (i := 146) (by decide +kernel)
  | 57, _ => exact List.mem_of_getElem? (i := 147) (by decide +kernel)
  | 58, _ => exact List.mem_of_getElem? (i := 148) (by decide +kernel)
  | 59, _ => exact List.mem_of_getElem? (i := 149) (by decide +kernel)
  | 60, _ => exact List.mem_of_getElem? (i := 150) (by decide +kernel)
  | 61, _ => exact List.mem_of_getElem? (i := 151) (by decide +kernel)
  | 62, _ => exact List.mem_of_getElem? (i := 152) (by decide +kernel)
  | 63, _ => exact List.mem_of_getElem? (i := 153) (by decide +kernel)
  | 64, _ => exact List.mem_of_getElem? (i := 154) (by decide +kernel)
  | 65, _ => exact List.mem_of_getElem? (i := 155) (by decide +kernel)
  | 66, _ => exact List.mem_of_getElem? (i := 156) (by decide +kernel)
  | 67, _ => exact List.mem_of_getElem? (i := 157) (by decide +kernel)
  | 68, _ => exact List.mem_of_getElem? (i := 158) (by decide +kernel)
  | 69, _ => exact List.mem_of_getElem? (i := 159) (by decide +kernel)
  | 70, _ => exact List.mem_of_getElem? (i := 160) (by decide +kernel)
  | 71, _ => exact List.mem_of_getElem? (i := 161) (by decide +kernel)
  | 72, _ => exact List.mem_of_getElem? (i := 162) (by decide +kernel)
  | 73, _ => exact List.mem_of_getElem? (i := 163) (by decide +kernel)
  | 74, _ => exact List.mem_of_getElem? (i := 164) (by decide +kernel)
  | 75, _ => exact List.mem_of_getElem? (i := 165) (by decide +kernel)
  | 76, _ => exact List.mem_of_getElem? (i := 166) (by decide +kernel)
  | 77, _ => exact List.mem_of_getElem? (i := 167) (by decide +kernel)
  | 78, _ => exact List.mem_of_getElem? (i := 168) (by decide +kernel)
  | 79, _ => exact List.mem_of_getElem? (i := 169) (by decide +kernel)
  | 80, _ => exact List.mem_of_getElem? (i := 170) (by decide +kernel)
  | 81, _ => exact List.mem_of_getElem? (i := 171) (by decide +kernel)
  | 82, _ => exact List.mem_of_getElem? (i := 172) (by decide +kernel)
  | 83, _ => exact List.mem_of_getElem? (i := 173) (by decide +kernel)
  | 84, _ => exact List.mem_of_getElem? (i := 174) (by decide +kernel)
  | 85, _ => exact List.mem_of_getElem? (i := 175) (by decide +kernel)
  | 86, _ => exact List.mem_of_getElem? (i := 176) (by decide +kernel)
  | 87, _ => exact List.mem_of_getElem? (i := 177) (by decide +kernel)
  | 88, _ => exact List.mem_of_getElem? (i := 178) (by decide +kernel)
  | 89, _ => exact List.mem_of_getElem? (i := 179) (by decide +kernel)
  | 90, _ => exact List.mem_of_getElem? (i := 180) (by decide +kernel)
  | 91, _ => exact List.mem_of_getElem? (i := 181) (by decide +kernel)
  | 92, _ => exact List.mem_of_getElem? (i := 182) (by decide +kernel)
  | 93, _ => exact List.mem_of_getElem? (i := 183) (by decide +kernel)
  | n + 94, h => exact absurd h (by omega)
theorem fl_el : ∀ i : Nat, i < 20 → ∀ j : Nat, j < lenS.getD i 0 → Cond.eq (.elem (.field (tmS i) "java/lang/String" "value" "[B") (.int (Int32.ofNat j))) (.int ((bytS.getD i []).getD j 0)) ∈ fl1 := fun i hi => by
  match i, hi with
  | 0, _ => exact fl_el0
  | 1, _ => exact fl_el1
  | 2, _ => exact fl_el2
  | 3, _ => exact fl_el3
  | 4, _ => exact fl_el4
  | 5, _ => exact fl_el5
  | 6, _ => exact fl_el6
  | 7, _ => exact fl_el7
  | 8, _ => exact fl_el8
  | 9, _ => exact fl_el9
  | 10, _ => exact fl_el10
  | 11, _ => exact fl_el11
  | 12, _ => exact fl_el12
  | 13, _ => exact fl_el13
  | 14, _ => exact fl_el14
  | 15, _ => exact fl_el15
  | 16, _ => exact fl_el16
  | 17, _ => exact fl_el17
  | 18, _ => exact fl_el18
  | 19, _ => exact fl_el19
  | n + 20, h => exact absurd h (by omega)
set_option maxRecDepth 100000 in
theorem fl_ne0 : ∀ j : Nat, j < 20 → 0 ≠ j → Cond.not (Cond.eq (tmS 0) (tmS j)) ∈ fl1 ∨ Cond.not (Cond.eq (tmS j) (tmS 0)) ∈ fl1 := fun j hj hij => by
  match j, hj, hij with
  | 0, _, h => exact absurd rfl h
  | 1, _, _ => exact Or.inl (List.mem_of_getElem? (i := 253) (by decide +kernel))
  | 2, _, _ => exact Or.inl (List.mem_of_getElem? (i := 268) (by decide +kernel))
  | 3, _, _ => exact Or.inl (List.mem_of_getElem? (i := 284) (by decide +kernel))
  | 4, _, _ => exact Or.inl (List.mem_of_getElem? (i := 301) (by decide +kernel))
  | 5, _, _ => exact Or.inl (List.mem_of_getElem? (i := 319) (by decide +kernel))
  | 6, _, _ => exact Or.inl (List.mem_of_getElem? (i := 338) (by decide +kernel))
  | 7, _, _ => exact Or.inl (List.mem_of_getElem? (i := 359) (by decide +kernel))
  | 8, _, _ => exact Or.inl (List.mem_of_getElem? (i := 381) (by decide +kernel))
  | 9, _, _ => exact Or.inl (List.mem_of_getElem? (i := 401) (by decide +kernel))
  | 10, _, _ => exact Or.inl (List.mem_of_getElem? (i := 423) (by decide +kernel))
  | 11, _, _ => exact Or.inl (List.mem_of_getElem? (i := 445) (by decide +kernel))
  | 12, _, _ => exact Or.inl (List.mem_of_getElem? (i := 470) (by decide +kernel))
  | 13, _, _ => exact Or.inl (List.mem_of_getElem? (i := 496) (by decide +kernel))
  | 14, _, _ => exact Or.inl (List.mem_of_getElem? (i := 524) (by decide +kernel))
  | 15, _, _ => exact Or.inl (List.mem_of_getElem? (i := 553) (by decide +kernel))
  | 16, _, _ => exact Or.inl (List.mem_of_getElem? (i := 582) (by decide +kernel))
  | 17, _, _ => exact Or.inl (List.mem_of_getElem? (i := 614) (by decide +kernel))
  | 18, _, _ => exact Or.inl (List.mem_of_getElem? (i := 645) (by decide +kernel))
  | 19, _, _ => exact Or.inr (List.mem_of_getElem? (i := 237) (by decide +kernel))
  | n + 20, h, _ => exact absurd h (by omega)
set_option maxRecDepth 100000 in
theorem fl_ne1 : ∀ j : Nat, j < 20 → 1 ≠ j → Cond.not (Cond.eq (tmS 1) (tmS j)) ∈ fl1 ∨ Cond.not (Cond.eq (tmS j) (tmS 1)) ∈ fl1 := fun j hj hij => by
  match j, hj, hij with
  | 0, _, _ => exact (fl_ne0 1 (by decide) (by decide)).symm
  | 1, _, h => exact absurd rfl h
  | 2, _, _ => exact Or.inl (List.mem_of_getElem? (i := 269) (by decide +kernel))
  | 3, _, _ => exact Or.inl (List.mem_of_getElem? (i := 285) (by decide +kernel))
  | 4, _, _ => exact Or.inl (List.mem_of_getElem? (i := 302) (by decide +kernel))
  | 5, _, _ => exact Or.inl (List.mem_of_getElem? (i := 320) (by decide +kernel))
  | 6, _, _ => exact Or.inl (List.mem_of_getElem? (i := 339) (by decide +kernel))
  | 7, _, _ => exact Or.inl (List.mem_of_getElem? (i := 360) (by decide +kernel))
  | 8, _, _ => exact Or.inl (List.mem_of_getElem? (i := 382) (by decide +kernel))
  | 9, _, _ => exact Or.inl (List.mem_of_getElem? (i := 402) (by decide +kernel))
  | 10, _, _ => exact Or.inl (List.mem_of_getElem? (i := 424) (by decide +kernel))
  | 11, _, _ => exact Or.inl (List.mem_of_getElem? (i := 446) (by decide +kernel))
  | 12, _, _ => exact Or.inl (List.mem_of_getElem? (i := 471) (by decide +kernel))
  | 13, _, _ => exact Or.inl (List.mem_of_getElem? (i := 497) (by decide +kernel))
  | 14, _, _ => exact Or.inl (List.mem_of_getElem? (i := 525) (by decide +kernel))
  | 15, _, _ => exact Or.inl (List.mem_of_getElem? (i := 554) (by decide +kernel))
  | 16, _, _ => exact Or.inl (List.mem_of_getElem? (i := 583) (by decide +kernel))
  | 17, _, _ => exact Or.inl (List.mem_of_getElem? (i := 615) (by decide +kernel))
  | 18, _, _ => exact Or.inl (List.mem_of_getElem? (i := 646) (by decide +kernel))
  | 19, _, _ => exact Or.inr (List.mem_of_getElem? (i := 250) (by decide +kernel))
  | n + 20, h, _ => exact absurd h (by omega)
set_option maxRecDepth 100000 in
theorem fl_ne2 : ∀ j : Nat, j < 20 → 2 ≠ j → Cond.not (Cond.eq (tmS 2) (tmS j)) ∈ fl1 ∨ Cond.not (Cond.eq (tmS j) (tmS 2)) ∈ fl1 := fun j hj hij => by
  match j, hj, hij with
  | 0, _, _ => exact (fl_ne0 2 (by decide) (by decide)).symm
  | 1, _, _ => exact (fl_ne1 2 (by decide) (by decide)).symm
  | 2, _, h => exact absurd rfl h
  | 3, _, _ => exact Or.inl (List.mem_of_getElem? (i := 286) (by decide +kernel))
  | 4, _, _ => exact Or.inl (List.mem_of_getElem? (i := 303) (by decide +kernel))
  | 5, _, _ => exact Or.inl (List.mem_of_getElem? (i := 321) (by decide +kernel))
  | 6, _, _ => exact Or.inl (List.mem_of_getElem? (i := 340) (by decide +kernel))
  | 7, _, _ => exact Or.inl (List.mem_of_getElem? (i := 361) (by decide +kernel))
  | 8, _, _ => exact Or.inl (List.mem_of_getElem? (i := 383) (by decide +kernel))
  | 9, _, _ => exact Or.inl (List.mem_of_getElem? (i := 403) (by decide +kernel))
  | 10, _, _ => exact Or.inl (List.mem_of_getElem? (i := 425) (by decide +kernel))
  | 11, _, _ => exact Or.inl (List.mem_of_getElem? (i := 447) (by decide +kernel))
  | 12, _, _ => exact Or.inl (List.mem_of_getElem? (i := 472) (by decide +kernel))
  | 13, _, _ => exact Or.inl (List.mem_of_getElem? (i := 498) (by decide +kernel))
  | 14, _, _ => exact Or.inl (List.mem_of_getElem? (i := 526) (by decide +kernel))
  | 15, _, _ => exact Or.inl (List.mem_of_getElem? (i := 555) (by decide +kernel))
  | 16, _, _ => exact Or.inl (List.mem_of_getElem? (i := 584) (by decide +kernel))
  | 17, _, _ => exact Or.inl (List.mem_of_getElem? (i := 616) (by decide +kernel))
  | 18, _, _ => exact Or.inl (List.mem_of_getElem? (i := 647) (by decide +kernel))
  | 19, _, _ => exact Or.inr (List.mem_of_getElem? (i := 265) (by decide +kernel))
  | n + 20, h, _ => exact absurd h (by omega)
set_option maxRecDepth 100000 in
theorem fl_ne3 : ∀ j : Nat, j < 20 → 3 ≠ j → Cond.not (Cond.eq (tmS 3) (tmS j)) ∈ fl1 ∨ Cond.not (Cond.eq (tmS j) (tmS 3)) ∈ fl1 := fun j hj hij => by
  match j, hj, hij with
  | 0, _, _ => exact (fl_ne0 3 (by decide) (by decide)).symm
  | 1, _, _ => exact (fl_ne1 3 (by decide) (by decide)).symm
  | 2, _, _ => exact (fl_ne2 3 (by decide) (by decide)).symm
  | 3, _, h => exact absurd rfl h
  | 4, _, _ => exact Or.inl (List.mem_of_getElem? (i := 304) (by decide +kernel))
  | 5, _, _ => exact Or.inl (List.mem_of_getElem? (i := 322) (by decide +kernel))
  | 6, _, _ => exact Or.inl (List.mem_of_getElem? (i := 341) (by decide +kernel))
  | 7, _, _ => exact Or.inl (List.mem_of_getElem? (i := 362) (by decide +kernel))
  | 8, _, _ => exact Or.inl (List.mem_of_getElem? (i := 384) (by decide +kernel))
  | 9, _, _ => exact Or.inl (List.mem_of_getElem? (i := 404) (by decide +kernel))
  | 10, _, _ => exact Or.inl (List.mem_of_getElem? (i := 426) (by decide +kernel))
  | 11, _, _ => exact Or.inl (List.mem_of_getElem? (i := 448) (by decide +kernel))
  | 12, _, _ => exact Or.inl (List.mem_of_getElem? (i := 473) (by decide +kernel))
  | 13, _, _ => exact Or.inl (List.mem_of_getElem? (i := 499) (by decide +kernel))
  | 14, _, _ => exact Or.inl (List.mem_of_getElem? (i := 527) (by decide +kernel))
  | 15, _, _ => exact Or.inl (List.mem_of_getElem? (i := 556) (by decide +kernel))
  | 16, _, _ => exact Or.inl (List.mem_of_getElem? (i := 585) (by decide +kernel))
  | 17, _, _ => exact Or.inl (List.mem_of_getElem? (i := 617) (by decide +kernel))
  | 18, _, _ => exact Or.inl (List.mem_of_getElem? (i := 648) (by decide +kernel))
  | 19, _, _ => exact Or.inr (List.mem_of_getElem? (i := 281) (by decide +kernel))
  | n + 20, h, _ => exact absurd h (by omega)
set_option maxRecDepth 100000 in
theorem fl_ne4 : ∀ j : Nat, j < 20 → 4 ≠ j → Cond.not (Cond.eq (tmS 4) (tmS j)) ∈ fl1 ∨ Cond.not (Cond.eq (tmS j) (tmS 4)) ∈ fl1 := fun j hj hij => by
  match j, hj, hij with
  | 0, _, _ => exact (fl_ne0 4 (by decide) (by decide)).symm
  | 1, _, _ => exact (fl_ne1 4 (by decide) (by decide)).symm
  | 2, _, _ => exact (fl_ne2 4 (by decide) (by decide)).symm
  | 3, _, _ => exact (fl_ne3 4 (by decide) (by decide)).symm
  | 4, _, h => exact absurd rfl h
  | 5, _, _ => exact Or.inl (List.mem_of_getElem? (i := 323) (by decide +kernel))
  | 6, _, _ => exact Or.inl (List.mem_of_getElem? (i := 342) (by decide +kernel))
  | 7, _, _ => exact Or.inl (List.mem_of_getElem? (i := 363) (by decide +kernel))
  | 8, _, _ => exact Or.inl (List.mem_of_getElem? (i := 385) (by decide +kernel))
  | 9, _, _ => exact Or.inl (List.mem_of_getElem? (i := 405) (by decide +kernel))
  | 10, _, _ => exact Or.inl (List.mem_of_getElem? (i := 427) (by decide +kernel))
  | 11, _, _ => exact Or.inl (List.mem_of_getElem? (i := 449) (by decide +kernel))
  | 12, _, _ => exact Or.inl (List.mem_of_getElem? (i := 474) (by decide +kernel))
  | 13, _, _ => exact Or.inl (List.mem_of_getElem? (i := 500) (by decide +kernel))
  | 14, _, _ => exact Or.inl (List.mem_of_getElem? (i := 528) (by decide +kernel))
  | 15, _, _ => exact Or.inl (List.mem_of_getElem? (i := 557) (by decide +kernel))
  | 16, _, _ => exact Or.inl (List.mem_of_getElem? (i := 586) (by decide +kernel))
  | 17, _, _ => exact Or.inl (List.mem_of_getElem? (i := 618) (by decide +kernel))
  | 18, _, _ => exact Or.inl (List.mem_of_getElem? (i := 649) (by decide +kernel))
  | 19, _, _ => exact Or.inr (List.mem_of_getElem? (i := 298) (by decide +kernel))
  | n + 20, h, _ => exact absurd h (by omega)
set_option maxRecDepth 100000 in
theorem fl_ne5 : ∀ j : Nat, j < 20 → 5 ≠ j → Cond.not (Cond.eq (tmS 5) (tmS j)) ∈ fl1 ∨ Cond.not (Cond.eq (tmS j) (tmS 5)) ∈ fl1 := fun j hj hij => by
  match j, hj, hij with
  | 0, _, _ => exact (fl_ne0 5 (by decide) (by decide)).symm
  | 1, _, _ => exact (fl_ne1 5 (by decide) (by decide)).symm
  | 2, _, _ => exact (fl_ne2 5 (by decide) (by decide)).symm
  | 3, _, _ => exact (fl_ne3 5 (by decide) (by decide)).symm
  | 4, _, _ => exact (fl_ne4 5 (by decide) (by decide)).symm
  | 5, _, h => exact absurd rfl h
  | 6, _, _ => exact Or.inl (List.mem_of_getElem? (i := 343) (by decide +kernel))
  | 7, _, _ => exact Or.inl (List.mem_of_getElem? (i := 364) (by decide +kernel))
  | 8, _, _ => exact Or.inl (List.mem_of_getElem? (i := 386) (by decide +kernel))
  | 9, _, _ => exact Or.inl (List.mem_of_getElem? (i := 406) (by decide +kernel))
  | 10, _, _ => exact Or.inl (List.mem_of_getElem? (i := 428) (by decide +kernel))
  | 11, _, _ => exact Or.inl (List.mem_of_getElem? (i := 450) (by decide +kernel))
  | 12, _, _ => exact Or.inl (List.mem_of_getElem? (i := 475) (by decide +kernel))
  | 13, _, _ => exact Or.inl (List.mem_of_getElem? (i := 501) (by decide +kernel))
  | 14, _, _ => exact Or.inl (List.mem_of_getElem? (i := 529) (by decide +kernel))
  | 15, _, _ => exact Or.inl (List.mem_of_getElem? (i := 558) (by decide +kernel))
  | 16, _, _ => exact Or.inl (List.mem_of_getElem? (i := 587) (by decide +kernel))
  | 17, _, _ => exact Or.inl (List.mem_of_getElem? (i := 619) (by decide +kernel))
  | 18, _, _ => exact Or.inl (List.mem_of_getElem? (i := 650) (by decide +kernel))
  | 19, _, _ => exact Or.inr (List.mem_of_getElem? (i := 316) (by decide +kernel))
  | n + 20, h, _ => exact absurd h (by omega)
set_option maxRecDepth 100000 in
theorem fl_ne6 : ∀ j : Nat, j < 20 → 6 ≠ j → Cond.not (Cond.eq (tmS 6) (tmS j)) ∈ fl1 ∨ Cond.not (Cond.eq (tmS j) (tmS 6)) ∈ fl1 := fun j hj hij => by
  match j, hj, hij with
  | 0, _, _ => exact (fl_ne0 6 (by decide) (by decide)).symm
  | 1, _, _ => exact (fl_ne1 6 (by decide) (by decide)).symm
  | 2, _, _ => exact (fl_ne2 6 (by decide) (by decide)).symm
  | 3, _, _ => exact (fl_ne3 6 (by decide) (by decide)).symm
  | 4, _, _ => exact (fl_ne4 6 (by decide) (by decide)).symm
  | 5, _, _ => exact (fl_ne5 6 (by decide) (by decide)).symm
  | 6, _, h => exact absurd rfl h
  | 7, _, _ => exact Or.inl (List.mem_of_getElem? (i := 365) (by decide +kernel))
  | 8, _, _ => exact Or.inl (List.mem_of_getElem? (i := 387) (by decide +kernel))
  | 9, _, _ => exact Or.inl (List.mem_of_getElem? (i := 407) (by decide +kernel))
  | 10, _, _ => exact Or.inl (List.mem_of_getElem? (i := 429) (by decide +kernel))
  | 11, _, _ => exact Or.inl (List.mem_of_getElem? (i := 451) (by decide +kernel))
  | 12, _, _ => exact Or.inl (List.mem_of_getElem? (i := 476) (by decide +kernel))
  | 13, _, _ => exact Or.inl (List.mem_of_getElem? (i := 502) (by decide +kernel))
  | 14, _, _ => exact Or.inl (List.mem_of_getElem? (i := 530) (by decide +kernel))
  | 15, _, _ => exact Or.inl (List.mem_of_getElem? (i := 559) (by decide +kernel))
  | 16, _, _ => exact Or.inl (List.mem_of_getElem? (i := 588) (by decide +kernel))
  | 17, _, _ => exact Or.inl (List.mem_of_getElem? (i := 620) (by decide +kernel))
  | 18, _, _ => exact Or.inl (List.mem_of_getElem? (i := 651) (by decide +kernel))
  | 19, _, _ => exact Or.inr (List.mem_of_getElem? (i := 335) (by decide +kernel))
  | n + 20, h, _ => exact absurd h (by omega)
set_option maxRecDepth 100000 in
theorem fl_ne7 : ∀ j : Nat, j < 20 → 7 ≠ j → Cond.not (Cond.eq (tmS 7) (tmS j)) ∈ fl1 ∨ Cond.not (Cond.eq (tmS j) (tmS 7)) ∈ fl1 := fun j hj hij => by
  match j, hj, hij with
  | 0, _, _ => exact (fl_ne0 7 (by decide) (by decide)).symm
  | 1, _, _ => exact (fl_ne1 7 (by decide) (by decide)).symm
  | 2, _, _ => exact (fl_ne2 7 (by decide) (by decide)).symm
  | 3, _, _ => exact (fl_ne3 7 (by decide) (by decide)).symm
  | 4, _, _ => exact (fl_ne4 7 (by decide) (by decide)).symm
  | 5, _, _ => exact (fl_ne5 7 (by decide) (by decide)).symm
  | 6, _, _ => exact (fl_ne6 7 (by decide) (by decide)).symm
  | 7, _, h => exact absurd rfl h
  | 8, _, _ => exact Or.inl (List.mem_of_getElem? (i := 388) (by decide +kernel))
  | 9, _, _ => exact Or.inl (List.mem_of_getElem? (i := 408) (by decide +kernel))
  | 10, _, _ => exact Or.inl (List.mem_of_getElem? (i := 430) (by decide +kernel))
  | 11, _, _ => exact Or.inl (List.mem_of_getElem? (i := 452) (by decide +kernel))
  | 12, _, _ => exact Or.inl (List.mem_of_getElem? (i := 477) (by decide +kernel))
  | 13, _, _ => exact Or.inl (List.mem_of_getElem? (i := 503) (by decide +kernel))
  | 14, _, _ => exact Or.inl (List.mem_of_getElem? (i := 531) (by decide +kernel))
  | 15, _, _ => exact Or.inl (List.mem_of_getElem? (i := 560) (by decide +kernel))
  | 16, _, _ => exact Or.inl (List.mem_of_getElem? (i := 589) (by decide +kernel))
  | 17, _, _ => exact Or.inl (List.mem_of_getElem? (i := 621) (by decide +kernel))
  | 18, _, _ => exact Or.inl (List.mem_of_getElem? (i := 652) (by decide +kernel))
  | 19, _, _ => exact Or.inr (List.mem_of_getElem? (i := 356) (by decide +kernel))
  | n + 20, h, _ => exact absurd h (by omega)
set_option maxRecDepth 100000 in
theorem fl_ne8 : ∀ j : Nat, j < 20 → 8 ≠ j → Cond.not (Cond.eq (tmS 8) (tmS j)) ∈ fl1 ∨ Cond.not (Cond.eq (tmS j) (tmS 8)) ∈ fl1 := fun j hj hij => by
  match j, hj, hij with
  | 0, _, _ => exact (fl_ne0 8 (by decide) (by decide)).symm
  | 1, _, _ => exact (fl_ne1 8 (by decide) (by decide)).symm
  | 2, _, _ => exact (fl_ne2 8 (by decide) (by decide)).symm
  | 3, _, _ => exact (fl_ne3 8 (by decide) (by decide)).symm
  | 4, _, _ => exact (fl_ne4 8 (by decide) (by decide)).symm
  | 5, _, _ => exact (fl_ne5 8 (by decide) (by decide)).symm
  | 6, _, _ => exact (fl_ne6 8 (by decide) (by decide)).symm
  | 7, _, _ => exact (fl_ne7 8 (by decide) (by decide)).symm
  | 8, _, h => exact absurd rfl h
  | 9, _, _ => exact Or.inl (List.mem_of_getElem? (i := 409) (by decide +kernel))
  | 10, _, _ => exact Or.inl (List.mem_of_getElem? (i := 431) (by decide +kernel))
  | 11, _, _ => exact Or.inl (List.mem_of_getElem? (i := 453) (by decide +kernel))
  | 12, _, _ => exact Or.inl (List.mem_of_getElem? (i := 478) (by decide +kernel))
  | 13, _, _ => exact Or.inl (List.mem_of_getElem? (i := 504) (by decide +kernel))
  | 14, _, _ => exact Or.inl (List.mem_of_getElem? (i := 532) (by decide +kernel))
  | 15, _, _ => exact Or.inl (List.mem_of_getElem? (i := 561) (by decide +kernel))
  | 16, _, _ => exact Or.inl (List.mem_of_getElem? (i := 590) (by decide +kernel))
  | 17, _, _ => exact Or.inl (List.mem_of_getElem? (i := 622) (by decide +kernel))
  | 18, _, _ => exact Or.inl (List.mem_of_getElem? (i := 653) (by decide +kernel))
  | 19, _, _ => exact Or.inr (List.mem_of_getElem? (i := 378) (by decide +kernel))
  | n + 20, h, _ => exact absurd h (by omega)
set_option maxRecDepth 100000 in
theorem fl_ne9 : ∀ j : Nat, j < 20 → 9 ≠ j → Cond.not (Cond.eq (tmS 9) (tmS j)) ∈ fl1 ∨ Cond.not (Cond.eq (tmS j) (tmS 9)) ∈ fl1 := fun j hj hij => by
  match j, hj, hij with
  | 0, _, _ => exact (fl_ne0 9 (by decide) (by decide)).symm
  | 1, _, _ => exact (fl_ne1 9 (by decide) (by decide)).symm
  | 2, _, _ => exact (fl_ne2 9 (by decide) (by decide)).symm
  | 3, _, _ => exact (fl_ne3 9 (by decide) (by decide)).symm
  | 4, _, _ => exact (fl_ne4 9 (by decide) (by decide)).symm
  | 5, _, _ => exact (fl_ne5 9 (by decide) (by decide)).symm
  | 6, _, _ => exact (fl_ne6 9 (by decide) (by decide)).symm
  | 7, _, _ => exact (fl_ne7 9 (by decide) (by decide)).symm
  | 8, _, _ => exact (fl_ne8 9 (by decide) (by decide)).symm
  | 9, _, h => exact absurd rfl h
  | 10, _, _ => exact Or.inl (List.mem_of_getElem? (i := 432) (by decide +kernel))
  | 11, _, _ => exact Or.inl (List.mem_of_getElem? (i := 454) (by decide +kernel))
  | 12, _, _ => exact Or.inl (List.mem_of_getElem? (i := 479) (by decide +kernel))
  | 13, _, _ => exact Or.inl (List.mem_of_getElem? (i := 505) (by decide +kernel))
  | 14, _, _ => exact Or.inl (List.mem_of_getElem? (i := 533) (by decide +kernel))
  | 15, _, _ => exact Or.inl (List.mem_of_getElem? (i := 562) (by decide +kernel))
  | 16, _, _ => exact Or.inl (List.mem_of_getElem? (i := 591) (by decide +kernel))
  | 17, _, _ => exact Or.inl (List.mem_of_getElem? (i := 623) (by decide +kernel))
  | 18, _, _ => exact Or.inl (List.mem_of_getElem? (i := 654) (by decide +kernel))
  | 19, _, _ => exact Or.inr (List.mem_of_getElem? (i := 398) (by decide +kernel))
  | n + 20, h, _ => exact absurd h (by omega)
set_option maxRecDepth 100000 in
theorem fl_ne10 : ∀ j : Nat, j < 20 → 10 ≠ j → Cond.not (Cond.eq (tmS 10) (tmS j)) ∈ fl1 ∨ Cond.not (Cond.eq (tmS j) (tmS 10)) ∈ fl1 := fun j hj hij => by
  match j, hj, hij with
  | 0, _, _ => exact (fl_ne0 10 (by decide) (by decide)).symm
  | 1, _, _ => exact (fl_ne1 10 (by decide) (by decide)).symm
  | 2, _, _ => exact (fl_ne2 10 (by decide) (by decide)).symm
  | 3, _, _ => exact (fl_ne3 10 (by decide) (by decide)).symm
  | 4, _, _ => exact (fl_ne4 10 (by decide) (by decide)).symm
  | 5, _, _ => exact (fl_ne5 10 (by decide) (by decide)).symm
  | 6, _, _ => exact (fl_ne6 10 (by decide) (by decide)).symm
  | 7, _, _ => exact (fl_ne7 10 (by decide) (by decide)).symm
  | 8, _, _ => exact (fl_ne8 10 (by decide) (by decide)).symm
  | 9, _, _ => exact (fl_ne9 10 (by decide) (by decide)).symm
  | 10, _, h => exact absurd rfl h
  | 11, _, _ => exact Or.inl (List.mem_of_getElem? (i := 455) (by decide +kernel))
  | 12, _, _ => exact Or.inl (List.mem_of_getElem? (i := 480) (by decide +kernel))
  | 13, _, _ => exact Or.inl (List.mem_of_getElem? (i := 506) (by decide +kernel))
  | 14, _, _ => exact Or.inl (List.mem_of_getElem? (i := 534) (by decide +kernel))
  | 15, _, _ => exact Or.inl (List.mem_of_getElem? (i := 563) (by decide +kernel))
  | 16, _, _ => exact Or.inl (List.mem_of_getElem? (i := 592) (by decide +kernel))
  | 17, _, _ => exact Or.inl (List.mem_of_getElem? (i := 624) (by decide +kernel))
  | 18, _, _ => exact Or.inl (List.mem_of_getElem? (i := 655) (by decide +kernel))
  | 19, _, _ => exact Or.inr (List.mem_of_getElem? (i := 420) (by decide +kernel))
  | n + 20, h, _ => exact absurd h (by omega)
set_option maxRecDepth 100000 in
theorem fl_ne11 : ∀ j : Nat, j < 20 → 11 ≠ j → Cond.not (Cond.eq (tmS 11) (tmS j)) ∈ fl1 ∨ Cond.not (Cond.eq (tmS j) (tmS 11)) ∈ fl1 := fun j hj hij => by
  match j, hj, hij with
  | 0, _, _ => exact (fl_ne0 11 (by decide) (by decide)).symm
  | 1, _, _ => exact (fl_ne1 11 (by decide) (by decide)).symm
  | 2, _, _ => exact (fl_ne2 11 (by decide) (by decide)).symm
  | 3, _, _ => exact (fl_ne3 11 (by decide) (by decide)).symm
  | 4, _, _ => exact (fl_ne4 11 (by decide) (by decide)).symm
  | 5, _, _ => exact (fl_ne5 11 (by decide) (by decide)).symm
  | 6, _, _ => exact (fl_ne6 11 (by decide) (by decide)).symm
  | 7, _, _ => exact (fl_ne7 11 (by decide) (by decide)).symm
  | 8, _, _ => exact (fl_ne8 11 (by decide) (by decide)).symm
  | 9, _, _ => exact (fl_ne9 11 (by decide) (by decide)).symm
  | 10, _, _ => exact (fl_ne10 11 (by decide) (by decide)).symm
  | 11, _, h => exact absurd rfl h
  | 12, _, _ => exact Or.inl (List.mem_of_getElem? (i := 481) (by decide +kernel))
  | 13, _, _ => exact Or.inl (List.mem_of_getElem? (i := 507) (by decide +kernel))
  | 14, _, _ => exact Or.inl (List.mem_of_getElem? (i := 535) (by decide +kernel))
  | 15, _, _ => exact Or.inl (List.mem_of_getElem? (i := 564) (by decide +kernel))
  | 16, _, _ => exact Or.inl (List.mem_of_getElem? (i := 593) (by decide +kernel))
  | 17, _, _ => exact Or.inl (List.mem_of_getElem? (i := 625) (by decide +kernel))
  | 18, _, _ => exact Or.inl (List.mem_of_getElem? (i := 656) (by decide +kernel))
  | 19, _, _ => exact Or.inr (List.mem_of_getElem? (i := 442) (by decide +kernel))
  | n + 20, h, _ => exact absurd h (by omega)
set_option maxRecDepth 100000 in
theorem fl_ne12 : ∀ j : Nat, j < 20 → 12 ≠ j → Cond.not (Cond.eq (tmS 12) (tmS j)) ∈ fl1 ∨ Cond.not (Cond.eq (tmS j) (tmS 12)) ∈ fl1 := fun j hj hij => by
  match j, hj, hij with
  | 0, _, _ => exact (fl_ne0 12 (by decide) (by decide)).symm
  | 1, _, _ => exact (fl_ne1 12 (by decide) (by decide)).symm
  | 2, _, _ => exact (fl_ne2 12 (by decide) (by decide)).symm
  | 3, _, _ => exact (fl_ne3 12 (by decide) (by decide)).symm
  | 4, _, _ => exact (fl_ne4 12 (by decide) (by decide)).symm
  | 5, _, _ => exact (fl_ne5 12 (by decide) (by decide)).symm
  | 6, _, _ => exact (fl_ne6 12 (by decide) (by decide)).symm
  | 7, _, _ => exact (fl_ne7 12 (by decide) (by decide)).symm
  | 8, _, _ => exact (fl_ne8 12 (by decide) (by decide)).symm
  | 9, _, _ => exact (fl_ne9 12 (by decide) (by decide)).symm
  | 10, _, _ => exact (fl_ne10 12 (by decide) (by decide)).symm
  | 11, _, _ => exact (fl_ne11 12 (by decide) (by decide)).symm
  | 12, _, h => exact absurd rfl h
  | 13, _, _ => exact Or.inl (List.mem_of_getElem? (i := 508) (by decide +kernel))
  | 14, _, _ => exact Or.inl (List.mem_of_getElem? (i := 536) (by decide +kernel))
  | 15, _, _ => exact Or.inl (List.mem_of_getElem? (i := 565) (by decide +kernel))
  | 16, _, _ => exact Or.inl (List.mem_of_getElem? (i := 594) (by decide +kernel))
  | 17, _, _ => exact Or.inl (List.mem_of_getElem? (i := 626) (by decide +kernel))
  | 18, _, _ => exact Or.inl (List.mem_of_getElem? (i := 657) (by decide +kernel))
  | 19, _, _ => exact Or.inr (List.mem_of_getElem? (i := 467) (by decide +kernel))
  | n + 20, h, _ => exact absurd h (by omega)
set_option maxRecDepth 100000 in
theorem fl_ne13 : ∀ j : Nat, j < 20 → 13 ≠ j → Cond.not (Cond.eq (tmS 13) (tmS j)) ∈ fl1 ∨ Cond.not (Cond.eq (tmS j) (tmS 13)) ∈ fl1 := fun j hj hij => by
  match j, hj, hij with
  | 0, _, _ => exact (fl_ne0 13 (by decide) (by decide)).symm
  | 1, _, _ => exact (fl_ne1 13 (by decide) (by decide)).symm
  | 2, _, _ => exact (fl_ne2 13 (by decide) (by decide)).symm
  | 3, _, _ => exact (fl_ne3 13 (by decide) (by decide)).symm
  | 4, _, _ => exact (fl_ne4 13 (by decide) (by decide)).symm
  | 5, _, _ => exact (fl_ne5 13 (by decide) (by decide)).symm
  | 6, _, _ => exact (fl_ne6 13 (by decide) (by decide)).symm
  | 7, _, _ => exact (fl_ne7 13 (by decide) (by decide)).symm
  | 8, _, _ => exact (fl_ne8 13 (by decide) (by decide)).symm
  | 9, _, _ => exact (fl_ne9 13 (by decide) (by decide)).symm
  | 10, _, _ => exact (fl_ne10 13 (by decide) (by decide)).symm
  | 11, _, _ => exact (fl_ne11 13 (by decide) (by decide)).symm
  | 12, _, _ => exact (fl_ne12 13 (by decide) (by decide)).symm
  | 13, _, h => exact absurd rfl h
  | 14, _, _ => exact Or.inl (List.mem_of_getElem? (i := 537) (by decide +kernel))
  | 15, _, _ => exact Or.inl (List.mem_of_getElem? (i := 566) (by decide +kernel))
  | 16, _, _ => exact Or.inl (List.mem_of_getElem? (i := 595) (by decide +kernel))
  | 17, _, _ => exact Or.inl (List.mem_of_getElem? (i := 627) (by decide +kernel))
  | 18, _, _ => exact Or.inl (List.mem_of_getElem? (i := 658) (by decide +kernel))
  | 19, _, _ => exact Or.inr (List.mem_of_getElem? (i := 493) (by decide +kernel))
  | n + 20, h, _ => exact absurd h (by omega)
set_option maxRecDepth 100000 in
theorem fl_ne14 : ∀ j : Nat, j < 20 → 14 ≠ j → Cond.not (Cond.eq (tmS 14) (tmS j)) ∈ fl1 ∨ Cond.not (Cond.eq (tmS j) (tmS 14)) ∈ fl1 := fun j hj hij => by
  match j, hj, hij with
  | 0, _, _ => exact (fl_ne0 14 (by decide) (by decide)).symm
  | 1, _, _ => exact (fl_ne1 14 (by decide) (by decide)).symm
  | 2, _, _ => exact (fl_ne2 14 (by decide) (by decide)).symm
  | 3, _, _ => exact (fl_ne3 14 (by decide) (by decide)).symm
  | 4, _, _ => exact (fl_ne4 14 (by decide) (by decide)).symm
  | 5, _, _ => exact (fl_ne5 14 (by decide) (by decide)).symm
  | 6, _, _ => exact (fl_ne6 14 (by decide) (by decide)).symm
  | 7, _, _ => exact (fl_ne7 14 (by decide) (by decide)).symm
  | 8, _, _ => exact (fl_ne8 14 (by decide) (by decide)).symm
  | 9, _, _ => exact (fl_ne9 14 (by decide) (by decide)).symm
  | 10, _, _ => exact (fl_ne10 14 (by decide) (by decide)).symm
  | 11, _, _ => exact (fl_ne11 14 (by decide) (by decide)).symm
  | 12, _, _ => exact (fl_ne12 14 (by decide) (by decide)).symm
  | 13, _, _ => exact (fl_ne13 14 (by decide) (by decide)).symm
  | 14, _, h => exact absurd rfl h
  | 15, _, _ => exact Or.inl (List.mem_of_getElem? (i := 567) (by decide +kernel))
  | 16, _, _ => exact Or.inl (List.mem_of_getElem? (i := 596) (by decide +kernel))
  | 17, _, _ => exact Or.inl (List.mem_of_getElem? (i := 628) (by decide +kernel))
  | 18, _, _ => exact Or.inl (List.mem_of_getElem? (i := 659) (by decide +kernel))
  | 19, _, _ => exact Or.inr (List.mem_of_getElem? (i := 521) (by decide +kernel))
  | n + 20, h, _ => exact absurd h (by omega)
set_option maxRecDepth 100000 in
theorem fl_ne15 : ∀ j : Nat, j < 20 → 15 ≠ j → Cond.not (Cond.eq (tmS 15) (tmS j)) ∈ fl1 ∨ Cond.not (Cond.eq (tmS j) (tmS 15)) ∈ fl1 := fun j hj hij => by
  match j, hj, hij with
  | 0, _, _ => exact (fl_ne0 15 (by decide) (by decide)).symm
  | 1, _, _ => exact (fl_ne1 15 (by decide) (by decide)).symm
  | 2, _, _ => exact (fl_ne2 15 (by decide) (by decide)).symm
  | 3, _, _ => exact (fl_ne3 15 (by decide) (by decide)).symm
  | 4, _, _ => exact (fl_ne4 15 (by decide) (by decide)).symm
  | 5, _, _ => exact (fl_ne5 15 (by decide) (by decide)).symm
  | 6, _, _ => exact (fl_ne6 15 (by decide) (by decide)).symm
  | 7, _, _ => exact (fl_ne7 15 (by decide) (by decide)).symm
  | 8, _, _ => exact (fl_ne8 15 (by decide) (by decide)).symm
  | 9, _, _ => exact (fl_ne9 15 (by decide) (by decide)).symm
  | 10, _, _ => exact (fl_ne10 15 (by decide) (by decide)).symm
  | 11, _, _ => exact (fl_ne11 15 (by decide) (by decide)).symm
  | 12, _, _ => exact (fl_ne12 15 (by decide) (by decide)).symm
  | 13, _, _ => exact (fl_ne13 15 (by decide) (by decide)).symm
  | 14, _, _ => exact (fl_ne14 15 (by decide) (by decide)).symm
  | 15, _, h => exact absurd rfl h
  | 16, _, _ => exact Or.inl (List.mem_of_getElem? (i := 597) (by decide +kernel))
  | 17, _, _ => exact Or.inl (List.mem_of_getElem? (i := 629) (by decide +kernel))
  | 18, _, _ => exact Or.inl (List.mem_of_getElem? (i := 660) (by decide +kernel))
  | 19, _, _ => exact Or.inr (List.mem_of_getElem? (i := 550) (by decide +kernel))
  | n + 20, h, _ => exact absurd h (by omega)
set_option maxRecDepth 100000 in
theorem fl_ne16 : ∀ j : Nat, j < 20 → 16 ≠ j → Cond.not (Cond.eq (tmS 16) (tmS j)) ∈ fl1 ∨ Cond.not (Cond.eq (tmS j) (tmS 16)) ∈ fl1 := fun j hj hij => by
  match j, hj, hij with
  | 0, _, _ => exact (fl_ne0 16 (by decide) (by decide)).symm
  | 1, _, _ => exact (fl_ne1 16 (by decide) (by decide)).symm
  | 2, _, _ => exact (fl_ne2 16 (by decide) (by decide)).symm
  | 3, _, _ => exact (fl_ne3 16 (by decide) (by decide)).symm
  | 4, _, _ => exact (fl_ne4 16 (by decide) (by decide)).symm
  | 5, _, _ => exact (fl_ne5 16 (by decide) (by decide)).symm
  | 6, _, _ => exact (fl_ne6 16 (by decide) (by decide)).symm
  | 7, _, _ => exact (fl_ne7 16 (by decide) (by decide)).symm
  | 8, _, _ => exact (fl_ne8 16 (by decide) (by decide)).symm
  | 9, _, _ => exact (fl_ne9 16 (by decide) (by decide)).symm
  | 10, _, _ => exact (fl_ne10 16 (by decide) (by decide)).symm
  | 11, _, _ => exact (fl_ne11 16 (by decide) (by decide)).symm
  | 12, _, _ => exact (fl_ne12 16 (by decide) (by decide)).symm
  | 13, _, _ => exact (fl_ne13 16 (by decide) (by decide)).symm
  | 14, _, _ => exact (fl_ne14 16 (by decide) (by decide)).symm
  | 15, _, _ => exact (fl_ne15 16 (by decide) (by decide)).symm
  | 16, _, h => exact absurd rfl h
  | 17, _, _ => exact Or.inl (List.mem_of_getElem? (i := 630) (by decide +kernel))
  | 18, _, _ => exact Or.inl (List.mem_of_getElem? (i := 661) (by decide +kernel))
  | 19, _, _ => exact Or.inr (List.mem_of_getElem? (i := 579) (by decide +kernel))
  | n + 20, h, _ => exact absurd h (by omega)
set_option maxRecDepth 100000 in
theorem fl_ne17 : ∀ j : Nat, j < 20 → 17 ≠ j → Cond.not (Cond.eq (tmS 17) (tmS j)) ∈ fl1 ∨ Cond.not (Cond.eq (tmS j) (tmS 17)) ∈ fl1 := fun j hj hij => by
  match j, hj, hij with
  | 0, _, _ => exact (fl_ne0 17 (by decide) (by decide)).symm
  | 1, _, _ => exact (fl_ne1 17 (by decide) (by decide)).symm
  | 2, _, _ => exact (fl_ne2 17 (by decide) (by decide)).symm
  | 3, _, _ => exact (fl_ne3 17 (by decide) (by decide)).symm
  | 4, _, _ => exact (fl_ne4 17 (by decide) (by decide)).symm
  | 5, _, _ => exact (fl_ne5 17 (by decide) (by decide)).symm
  | 6, _, _ => exact (fl_ne6 17 (by decide) (by decide)).symm
  | 7, _, _ => exact (fl_ne7 17 (by decide) (by decide)).symm
  | 8, _, _ => exact (fl_ne8 17 (by decide) (by decide)).symm
  | 9, _, _ => exact (fl_ne9 17 (by decide) (by decide)).symm
  | 10, _, _ => exact (fl_ne10 17 (by decide) (by decide)).symm
  | 11, _, _ => exact (fl_ne11 17 (by decide) (by decide)).symm
  | 12, _, _ => exact (fl_ne12 17 (by decide) (by decide)).symm
  | 13, _, _ => exact (fl_ne13 17 (by decide) (by decide)).symm
  | 14, _, _ => exact (fl_ne14 17 (by decide) (by decide)).symm
  | 15, _, _ => exact (fl_ne15 17 (by decide) (by decide)).symm
  | 16, _, _ => exact (fl_ne16 17 (by decide) (by decide)).symm
  | 17, _, h => exact absurd rfl h
  | 18, _, _ => exact Or.inl (List.mem_of_getElem? (i := 662) (by decide +kernel))
  | 19, _, _ => exact Or.inr (List.mem_of_getElem? (i := 611) (by decide +kernel))
  | n + 20, h, _ => exact absurd h (by omega)
set_option maxRecDepth 100000 in
theorem fl_ne18 : ∀ j : Nat, j < 20 → 18 ≠ j → Cond.not (Cond.eq (tmS 18) (tmS j)) ∈ fl1 ∨ Cond.not (Cond.eq (tmS j) (tmS 18)) ∈ fl1 := fun j hj hij => by
  match j, hj, hij with
  | 0, _, _ => exact (fl_ne0 18 (by decide) (by decide)).symm
  | 1, _, _ => exact (fl_ne1 18 (by decide) (by decide)).symm
  | 2, _, _ => exact (fl_ne2 18 (by decide) (by decide)).symm
  | 3, _, _ => exact (fl_ne3 18 (by decide) (by decide)).symm
  | 4, _, _ => exact (fl_ne4 18 (by decide) (by decide)).symm
  | 5, _, _ => exact (fl_ne5 18 (by decide) (by decide)).symm
  | 6, _, _ => exact (fl_ne6 18 (by decide) (by decide)).symm
  | 7, _, _ => exact (fl_ne7 18 (by decide) (by decide)).symm
  | 8, _, _ => exact (fl_ne8 18 (by decide) (by decide)).symm
  | 9, _, _ => exact (fl_ne9 18 (by decide) (by decide)).symm
  | 10, _, _ => exact (fl_ne10 18 (by decide) (by decide)).symm
  | 11, _, _ => exact (fl_ne11 18 (by decide) (by decide)).symm
  | 12, _, _ => exact (fl_ne12 18 (by decide) (by decide)).symm
  | 13, _, _ => exact (fl_ne13 18 (by decide) (by decide)).symm
  | 14, _, _ => exact (fl_ne14 18 (by decide) (by decide)).symm
  | 15, _, _ => exact (fl_ne15 18 (by decide) (by decide)).symm
  | 16, _, _ => exact (fl_ne16 18 (by decide) (by decide)).symm
  | 17, _, _ => exact (fl_ne17 18 (by decide) (by decide)).symm
  | 18, _, h => exact absurd rfl h
  | 19, _, _ => exact Or.inr (List.mem_of_getElem? (i := 642) (by decide +kernel))
  | n + 20, h, _ => exact absurd h (by omega)
set_option maxRecDepth 100000 in
theorem fl_ne19 : ∀ j : Nat, j < 20 → 19 ≠ j → Cond.not (Cond.eq (tmS 19) (tmS j)) ∈ fl1 ∨ Cond.not (Cond.eq (tmS j) (tmS 19)) ∈ fl1 := fun j hj hij => by
  match j, hj, hij with
  | 0, _, _ => exact (fl_ne0 19 (by decide) (by decide)).symm
  | 1, _, _ => exact (fl_ne1 19 (by decide) (by decide)).symm
  | 2, _, _ => exact (fl_ne2 19 (by decide) (by decide)).symm
  | 3, _, _ => exact (fl_ne3 19 (by decide) (by decide)).symm
  | 4, _, _ => exact (fl_ne4 19 (by decide) (by decide)).symm
  | 5, _, _ => exact (fl_ne5 19 (by decide) (by decide)).symm
  | 6, _, _ => exact (fl_ne6 19 (by decide) (by decide)).symm
  | 7, _, _ => exact (fl_ne7 19 (by decide) (by decide)).symm
  | 8, _, _ => exact (fl_ne8 19 (by decide) (by decide)).symm
  | 9, _, _ => exact (fl_ne9 19 (by decide) (by decide)).symm
  | 10, _, _ => exact (fl_ne10 19 (by decide) (by decide)).symm
  | 11, _, _ => exact (fl_ne11 19 (by decide) (by decide)).symm
  | 12, _, _ => exact (fl_ne12 19 (by decide) (by decide)).symm
  | 13, _, _ => exact (fl_ne13 19 (by decide) (by decide)).symm
  | 14, _, _ => exact (fl_ne14 19 (by decide) (by decide)).symm
  | 15, _, _ => exact (fl_ne15 19 (by decide) (by decide)).symm
  | 16, _, _ => exact (fl_ne16 19 (by decide) (by decide)).symm
  | 17, _, _ => exact (fl_ne17 19 (by decide) (by decide)).symm
  | 18, _, _ => exact (fl_ne18 19 (by decide) (by decide)).symm
  | 19, _, h => exact absurd rfl h
  | n + 20, h, _ => exact absurd h (by omega)
theorem fl_ne : ∀ i : Nat, i < 20 → ∀ j : Nat, j < 20 → i ≠ j → Cond.not (Cond.eq (tmS i) (tmS j)) ∈ fl1 ∨ Cond.not (Cond.eq (tmS j) (tmS i)) ∈ fl1 := fun i hi => by
  match i, hi with
  | 0, _ => exact fl_ne0
  | 1, _ => exact fl_ne1
  | 2, _ => exact fl_ne2
  | 3, _ => exact fl_ne3
  | 4, _ => exact fl_ne4
  | 5, _ => exact fl_ne5
  | 6, _ => exact fl_ne6
  | 7, _ => exact fl_ne7
  | 8, _ => exact fl_ne8
  | 9, _ => exact fl_ne9
  | 10, _ => exact fl_ne10
  | 11, _ => exact fl_ne11
  | 12, _ => exact fl_ne12
  | 13, _ => exact fl_ne13
  | 14, _ => exact fl_ne14
  | 15, _ => exact fl_ne15
  | 16, _ => exact fl_ne16
  | 17, _ => exact fl_ne17
  | 18, _ => exact fl_ne18
  | 19, _ => exact fl_ne19
  | n + 20, h => exact absurd h (by omega)
