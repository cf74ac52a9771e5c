set_option maxHeartbeats 4000000 in
set_option maxRecDepth 100000 in
theorem lw_c4 {p : Program} {l : Launch} {e : Env} {s : State} {m : MethodId} {below : List Frame} {meth : Method} {c : Code} {D : va_G} {b Ln : Nat} {xs : Nat → Int32} {Q : State → Prop} (hl : l.stackTraces = false) (K : zLw p s m meth c D b Ln xs) {G : zG} {x y o j m0 cells slots : Nat} {σ : zS} (hI : zInv G x y o σ m0) (h1 : vp_in (nI j + 1) Ln) (h2 : vp_in (nI j + 2) Ln) (h3 : vp_in (nI j + 3) Ln) (hr1 : cells + (8 + (16384 - zK m0)) ≤ 601024) (hr2 : slots + (48 + 4 * (16384 - zK m0)) ≤ 7293033)
    (kk : ∀ (G' : zG) (σ' : zS) (m' : Nat), zInv G' x y o σ' m' → m0 ≤ m' → zV p l e room_1 s m #[Value.ref b] below meth c D (lA s) (cells + (8 + (zK m' - zK m0))) (slots + (48 + 4 * (zK m' - zK m0))) Q G' 1886 (lL b x y o (nI j)) []) : zV p l e room_1 s m #[Value.ref b] below meth c D (lA s) cells slots Q G 423 (lL b x y o (nI j)) [] := by
  obtain ⟨C, hX, hbl, h8⟩ := K
  have hbA : ¬ lA s b := Nat.not_le.mpr hbl
  obtain ⟨hW, ⟨tb, ev, A, hC⟩, ⟨ma, th, hM⟩, w, ho⟩ := hI
  obtain ⟨a1, e1⟩ : ∃ z, xs (nI j + 1).toNatClampNeg = z := ⟨_, rfl⟩
  obtain ⟨a2, e2⟩ : ∃ z, xs (nI j + 2).toNatClampNeg = z := ⟨_, rfl⟩
  obtain ⟨a3, e3⟩ : ∃ z, xs (nI j + 3).toNatClampNeg = z := ⟨_, rfl⟩
  obtain ⟨f3, ef3⟩ : ∃ f, (if a3 = 0 then (0 : Int32) else 1) = f := ⟨_, rfl⟩
  have hf3 := zFl01 ef3
  refine zz_aload_n (pc := 423) C dL_law_423 rfl ?_
  refine zz_aload_n (pc := 424) C dL_law_424 rfl ?_
  refine zz_iload (pc := 425) C dL_law_425 rfl ?_
  refine zz_iconst (pc := 427) C (v := 1) (by decide) dL_law_427 ?_
  refine zz_iadd (pc := 428) C dL_law_428 ?_
  refine zz_sld (pc := 429) C hX hbl hbA h1 e1 dL_law_429 ?_
  refine zz_aload_n (pc := 430) C dL_law_430 rfl ?_
  refine zz_iload (pc := 431) C dL_law_431 rfl ?_
  refine zz_iconst (pc := 433) C (v := 2) (by decide) dL_law_433 ?_
  refine zz_iadd (pc := 434) C dL_law_434 ?_
  refine zz_sld (pc := 435) C hX hbl hbA h2 e2 dL_law_435 ?_
  refine zz_aload_n (pc := 436) C dL_law_436 rfl ?_
  refine zz_iload (pc := 437) C dL_law_437 rfl ?_
  refine zz_iconst (pc := 439) C (v := 3) (by decide) dL_law_439 ?_
  refine zz_iadd (pc := 440) C dL_law_440 ?_
  refine zz_sld (pc := 441) C hX hbl hbA h3 e3 dL_law_441 ?_
  refine zz_flag (pc := 442) C ef3 dL_law_442 dL_law_445 dL_law_446 dL_law_449 ?_
  refine zz_aload_n (pc := 450) C dL_law_450 rfl ?_
  refine zzx_callSW (pc := 451) C h8 (c_L_waitFor l hl D (G := G) (x9 := a1) (c9 := a2) (f9 := f3) hC hW hf3 ho) gL_law_L_waitFor rfl 5 (by decide +kernel) ⟨Nat.le_of_ble_eq_true rfl, Nat.le_of_ble_eq_true rfl⟩ rfl dL_law_451 rfl (Nat.le_of_ble_eq_true rfl) rfl ⟨zRmC (T := 0) hr1 (Nat.le_add_right 3 _) (Nat.le_of_ble_eq_true rfl), zRmS (T := 0) hr2 (Nat.le_add_right 18 _) (Nat.le_of_ble_eq_true rfl)⟩ (fun E hE => hE.elim) ?_
  rintro v G9 ⟨rfl, ⟨A9, hC9⟩, ⟨w9, ho9, hw9⟩, hk2⟩
  obtain ⟨r, hR, hag, hrth, hring⟩ := hM.mv hk2
  refine zz_istore (pc := 454) C dL_law_454 (Nat.le_of_ble_eq_true rfl) ?_
  refine zz_aload_n (pc := 456) C dL_law_456 rfl ?_
  refine zz_aload_n (pc := 457) C dL_law_457 rfl ?_
  refine zz_iload (pc := 458) C dL_law_458 rfl ?_
  refine zz_iconst (pc := 460) C (v := 1) (by decide) dL_law_460 ?_
  refine zz_iadd (pc := 461) C dL_law_461 ?_
  refine zz_sld (pc := 462) C hX hbl hbA h1 e1 dL_law_462 ?_
  refine zz_aload_n (pc := 463) C dL_law_463 rfl ?_
  refine zz_iload (pc := 464) C dL_law_464 rfl ?_
  refine zz_iconst (pc := 466) C (v := 2) (by decide) dL_law_466 ?_
  refine zz_iadd (pc := 467) C dL_law_467 ?_
  refine zz_sld (pc := 468) C hX hbl hbA h2 e2 dL_law_468 ?_
  refine zz_aload_n (pc := 469) C dL_law_469 rfl ?_
  refine zz_iload (pc := 470) C dL_law_470 rfl ?_
  refine zz_iconst (pc := 472) C (v := 3) (by decide) dL_law_472 ?_
  refine zz_iadd (pc := 473) C dL_law_473 ?_
  refine zz_sld (pc := 474) C hX hbl hbA h3 e3 dL_law_474 ?_
  refine zz_flag (pc := 475) C ef3 dL_law_475 dL_law_478 dL_law_479 dL_law_482 ?_
  have hq1 := zRmU (a := ({ frames := 9, cells := 3, slots := 18, locals := 156 } : Room).cells) hr1 (T := 0) (Nat.le_trans (Nat.le_of_ble_eq_true (n := 3) (m := 5) rfl) (Nat.le_add_right 5 _))
  have hq2 := zRmV (a := ({ frames := 9, cells := 3, slots := 18, locals := 156 } : Room).slots) hr2 (T := 0) (Nat.le_trans (Nat.le_of_ble_eq_true (n := 18) (m := 40) rfl) (Nat.le_add_right 40 _))
  refine zz_callV (pc := 483) C (c_X3_waitFor l D (σ := σ) (x := a1) (c9 := a2) (f9 := f3) hR hag hring hW.z (zFlN hf3)) gL_law_X3_waitFor rfl 3 (by decide +kernel) ⟨Nat.le_of_ble_eq_true rfl, Nat.le_of_ble_eq_true rfl⟩ hR.2.1 (ci := 3) rfl rfl rfl dL_law_483 rfl (Nat.le_of_ble_eq_true rfl) rfl ⟨hq1, hq2⟩ ?_
  rintro v G10 ⟨rfl, hM10⟩
  obtain ⟨r10, hR10, hag10, hth10, hring10⟩ := id hM10
  refine zz_istore (pc := 486) C dL_law_486 (Nat.le_of_ble_eq_true rfl) ?_
  refine zz_aload_n (pc := 488) C dL_law_488 rfl ?_
  refine zz_callV (pc := 489) C (c_X3_thrown l D hR10) gL_law_X3_thrown rfl 0 (by decide +kernel) ⟨Nat.le_of_ble_eq_true rfl, Nat.le_of_ble_eq_true rfl⟩ hR10.2.1 (ci := 3) rfl rfl rfl dL_law_489 rfl (Nat.le_of_ble_eq_true rfl) rfl ⟨zRoom0 hq1, zRoom0 hq2⟩ ?_
  rintro v G11 ⟨rfl, rfl⟩
  rw [hth10]
  refine zz_iload (pc := 492) C dL_law_492 rfl ?_
  refine zz_icmp_eq (pc := 494) C (tgt := 499) dL_law_494 (by decide) (fun _ => ?_) (fun h => absurd rfl h)
  refine zz_iload (pc := 499) C dL_law_499 rfl ?_
  refine zz_if_ne (pc := 501) C (tgt := 523) dL_law_501 (by decide) (fun _ => ?_) (fun hcz => ?_)
  · refine zV.less (L' := lL b x y o (nI j)) ⟨rfl, rfl, rfl, rfl, rfl, trivial⟩ ?_
    refine zz_goto (pc := 523) C (tgt := 1886) dL_law_523 (by decide) ?_
    exact zV.widen (zLe3 (Nat.le_trans (Nat.le_of_ble_eq_true (n := 3) (m := 8) rfl) (Nat.le_add_right 8 _)) rfl rfl) (zLe3 (Nat.le_trans (Nat.le_of_ble_eq_true (n := 18) (m := 48) rfl) (Nat.le_add_right 48 _)) rfl rfl) (kk _ _ (if zE3 (¬ zHere σ a1) (a2 < 1 ∨ (40 : Int32) < a2) (zNot σ (pn a1)) = 0 then m0 else m0) (zInv_of (zIfW (fun z => zk_waitFor hW hf3 z) hW) hC9 ho9 hM10) (Nat.le_of_eq (ite_self _).symm))
  · skip
    refine zz_aload_n (pc := 504) C dL_law_504 rfl ?_
    refine zz_iconst (pc := 505) C (v := 0) (by decide) dL_law_505 ?_
    refine zz_lald (pc := 506) C dL_law_506 (n := 1) (hM10.fr o 3 _ ho9 (by decide)) (by unfold vp_in; decide) ?_
    refine zz_iload (pc := 507) C dL_law_507 rfl ?_
    refine zz_flagL (pc := 509) C dL_law_509 dL_law_512 dL_law_513 dL_law_516 ?_
    refine zz_lcmp (pc := 517) C dL_law_517 ?_
    refine zz_if_eq (pc := 518) C (tgt := 523) dL_law_518 (by decide) (fun _ => ?_) (fun h => absurd (zCmp_b hw9 (Classical.not_not.mp hcz)) h)
    refine zV.less (L' := lL b x y o (nI j)) ⟨rfl, rfl, rfl, rfl, rfl, trivial⟩ ?_
    refine zz_goto (pc := 523) C (tgt := 1886) dL_law_523 (by decide) ?_
    exact zV.widen (zLe3 (Nat.le_trans (Nat.le_of_ble_eq_true (n := 3) (m := 8) rfl) (Nat.le_add_right 8 _)) rfl rfl) (zLe3 (Nat.le_trans (Nat.le_of_ble_eq_true (n := 18) (m := 48) rfl) (Nat.le_add_right 48 _)) rfl rfl) (kk _ _ (if zE3 (¬ zHere σ a1) (a2 < 1 ∨ (40 : Int32) < a2) (zNot σ (pn a1)) = 0 then m0 else m0) (zInv_of (zIfW (fun z => zk_waitFor hW hf3 z) hW) hC9 ho9 hM10) (Nat.le_of_eq (ite_self _).symm))
set_option maxHeartbeats 4000000 in
set_option maxRecDepth 100000 in
theorem lw_c5 {p : Program} {l : Launch} {e : Env} {s : State} {m : MethodId} {below : List Frame} {meth : Method} {c : Code} {D : va_G} {b Ln : Nat} {xs : Nat → Int32} {Q : State → Prop} (hl : l.stackTraces = false) (K : zLw p s m meth c D b Ln xs) {G : zG} {x y o j m0 cells slots : Nat} {σ : zS} (hI : zInv G x y o σ m0) (h1 : vp_in (nI j + 1) Ln) (h2 : vp_in (nI j + 2) Ln) (h3 : vp_in (nI j + 3) Ln) (hr1 : cells + (8 + (16384 - zK m0)) ≤ 601024) (hr2 : slots + (48 + 4 * (16384 - zK m0)) ≤ 7293033)
    (kk : ∀ (G' : zG) (σ' : zS) (m' : Nat), zInv G' x y o σ' m' → m0 ≤ m' → zV p l e room_1 s m #[Value.ref b] below meth c D (lA s) (cells + (8 + (zK m' - zK m0))) (slots + (48 + 4 * (zK m' - zK m0))) Q G' 1886 (lL b x y o (nI j)) []) : zV p l e room_1 s m #[Value.ref b] below meth c D (lA s) cells slots Q G 526 (lL b x y o (nI j)) [] := by
  obtain ⟨C, hX, hbl, h8⟩ := K
  have hbA : ¬ lA s b := Nat.not_le.mpr hbl
  obtain ⟨hW, ⟨tb, ev, A, hC⟩, ⟨ma, th, hM⟩, w, ho⟩ := hI
  obtain ⟨a1, e1⟩ : ∃ z, xs (nI j + 1).toNatClampNeg = z := ⟨_, rfl⟩
  obtain ⟨a2, e2⟩ : ∃ z, xs (nI j + 2).toNatClampNeg = z := ⟨_, rfl⟩
  obtain ⟨a3, e3⟩ : ∃ z, xs (nI j + 3).toNatClampNeg = z := ⟨_, rfl⟩
  refine zz_aload_n (pc := 526) C dL_law_526 rfl ?_
  refine zz_aload_n (pc := 527) C dL_law_527 rfl ?_
  refine zz_iload (pc := 528) C dL_law_528 rfl ?_
  refine zz_iconst (pc := 530) C (v := 1) (by decide) dL_law_530 ?_
  refine zz_iadd (pc := 531) C dL_law_531 ?_
  refine zz_sld (pc := 532) C hX hbl hbA h1 e1 dL_law_532 ?_
  refine zz_aload_n (pc := 533) C dL_law_533 rfl ?_
  refine zz_iload (pc := 534) C dL_law_534 rfl ?_
  refine zz_iconst (pc := 536) C (v := 2) (by decide) dL_law_536 ?_
  refine zz_iadd (pc := 537) C dL_law_537 ?_
  refine zz_sld (pc := 538) C hX hbl hbA h2 e2 dL_law_538 ?_
  refine zz_aload_n (pc := 539) C dL_law_539 rfl ?_
  refine zz_iload (pc := 540) C dL_law_540 rfl ?_
  refine zz_iconst (pc := 542) C (v := 3) (by decide) dL_law_542 ?_
  refine zz_iadd (pc := 543) C dL_law_543 ?_
  refine zz_sld (pc := 544) C hX hbl hbA h3 e3 dL_law_544 ?_
  refine zz_aload_n (pc := 545) C dL_law_545 rfl ?_
  refine zzx_callSW (pc := 546) C h8 (c_L_setAction l hl D (G := G) (x9 := a1) (s9 := a2) (a9 := a3) hC hW ho) gL_law_L_setAction rfl 5 (by decide +kernel) ⟨Nat.le_of_ble_eq_true rfl, Nat.le_of_ble_eq_true rfl⟩ rfl dL_law_546 rfl (Nat.le_of_ble_eq_true rfl) rfl ⟨zRmC (T := 0) hr1 (Nat.le_add_right 5 _) (Nat.le_of_ble_eq_true rfl), zRmS (T := 0) hr2 (Nat.le_add_right 30 _) (Nat.le_of_ble_eq_true rfl)⟩ (fun E hE => hE.elim) ?_
  rintro v G9 ⟨rfl, ⟨A9, hC9⟩, ⟨w9, ho9, hw9⟩, hk2⟩
  obtain ⟨r, hR, hag, hrth, hring⟩ := hM.mv hk2
  refine zz_istore (pc := 549) C dL_law_549 (Nat.le_of_ble_eq_true rfl) ?_
  refine zz_aload_n (pc := 551) C dL_law_551 rfl ?_
  refine zz_aload_n (pc := 552) C dL_law_552 rfl ?_
  refine zz_iload (pc := 553) C dL_law_553 rfl ?_
  refine zz_iconst (pc := 555) C (v := 1) (by decide) dL_law_555 ?_
  refine zz_iadd (pc := 556) C dL_law_556 ?_
  refine zz_sld (pc := 557) C hX hbl hbA h1 e1 dL_law_557 ?_
  refine zz_aload_n (pc := 558) C dL_law_558 rfl ?_
  refine zz_iload (pc := 559) C dL_law_559 rfl ?_
  refine zz_iconst (pc := 561) C (v := 2) (by decide) dL_law_561 ?_
  refine zz_iadd (pc := 562) C dL_law_562 ?_
  refine zz_sld (pc := 563) C hX hbl hbA h2 e2 dL_law_563 ?_
  refine zz_aload_n (pc := 564) C dL_law_564 rfl ?_
  refine zz_iload (pc := 565) C dL_law_565 rfl ?_
  refine zz_iconst (pc := 567) C (v := 3) (by decide) dL_law_567 ?_
  refine zz_iadd (pc := 568) C dL_law_568 ?_
  refine zz_sld (pc := 569) C hX hbl hbA h3 e3 dL_law_569 ?_
  have hq1 := zRmU (a := ({ frames := 8, cells := 5, slots := 30, locals := 137 } : Room).cells) hr1 (T := 0) (Nat.le_trans (Nat.le_of_ble_eq_true (n := 5) (m := 5) rfl) (Nat.le_add_right 5 _))
  have hq2 := zRmV (a := ({ frames := 8, cells := 5, slots := 30, locals := 137 } : Room).slots) hr2 (T := 0) (Nat.le_trans (Nat.le_of_ble_eq_true (n := 30) (m := 40) rfl) (Nat.le_add_right 40 _))
  refine zz_callV (pc := 570) C (c_X3_setAction l D (σ := σ) (x := a1) (s9 := a2) (a9 := a3) hR hag hring ) gL_law_X3_setAction rfl 3 (by decide +kernel) ⟨Nat.le_of_ble_eq_true rfl, Nat.le_of_ble_eq_true rfl⟩ hR.2.1 (ci := 3) rfl rfl rfl dL_law_570 rfl (Nat.le_of_ble_eq_true rfl) rfl ⟨hq1, hq2⟩ ?_
  rintro v G10 ⟨rfl, hM10⟩
  obtain ⟨r10, hR10, hag10, hth10, hring10⟩ := id hM10
  refine zz_istore (pc := 573) C dL_law_573 (Nat.le_of_ble_eq_true rfl) ?_
  refine zz_aload_n (pc := 575) C dL_law_575 rfl ?_
  refine zz_callV (pc := 576) C (c_X3_thrown l D hR10) gL_law_X3_thrown rfl 0 (by decide +kernel) ⟨Nat.le_of_ble_eq_true rfl, Nat.le_of_ble_eq_true rfl⟩ hR10.2.1 (ci := 3) rfl rfl rfl dL_law_576 rfl (Nat.le_of_ble_eq_true rfl) rfl ⟨zRoom0 hq1, zRoom0 hq2⟩ ?_
  rintro v G11 ⟨rfl, rfl⟩
  rw [hth10]
  refine zz_iload (pc := 579) C dL_law_579 rfl ?_
  refine zz_icmp_eq (pc := 581) C (tgt := 586) dL_law_581 (by decide) (fun _ => ?_) (fun h => absurd rfl h)
  refine zz_iload (pc := 586) C dL_law_586 rfl ?_
  refine zz_if_ne (pc := 588) C (tgt := 603) dL_law_588 (by decide) (fun _ => ?_) (fun hcz => ?_)
  · refine zV.less (L' := lL b x y o (nI j)) ⟨rfl, rfl, rfl, rfl, rfl, trivial⟩ ?_
    refine zz_goto (pc := 603) C (tgt := 1886) dL_law_603 (by decide) ?_
    exact zV.widen (zLe3 (Nat.le_trans (Nat.le_of_ble_eq_true (n := 5) (m := 8) rfl) (Nat.le_add_right 8 _)) rfl rfl) (zLe3 (Nat.le_trans (Nat.le_of_ble_eq_true (n := 30) (m := 48) rfl) (Nat.le_add_right 48 _)) rfl rfl) (kk _ _ (if zE3 (¬ zHere σ a1) (¬ zOkA a2 a3) (zNot σ (pn a1)) = 0 then m0 else m0) (zInv_of (zIfW (fun z => zk_setAction hW  z) hW) hC9 ho9 hM10) (Nat.le_of_eq (ite_self _).symm))
  · skip
    refine zz_aload_n (pc := 591) C dL_law_591 rfl ?_
    refine zz_iconst (pc := 592) C (v := 0) (by decide) dL_law_592 ?_
    refine zz_lald (pc := 593) C dL_law_593 (n := 1) (hM10.fr o 3 _ ho9 (by decide)) (by unfold vp_in; decide) ?_
    refine zz_iload (pc := 594) C dL_law_594 rfl ?_
    refine zz_i2l (pc := 596) C dL_law_596 ?_
    refine zz_lcmp (pc := 597) C dL_law_597 ?_
    refine zz_if_eq (pc := 598) C (tgt := 603) dL_law_598 (by decide) (fun _ => ?_) (fun h => absurd (zCmp_i hw9 (Classical.not_not.mp hcz)) h)
    refine zV.less (L' := lL b x y o (nI j)) ⟨rfl, rfl, rfl, rfl, rfl, trivial⟩ ?_
    refine zz_goto (pc := 603) C (tgt := 1886) dL_law_603 (by decide) ?_
    exact zV.widen (zLe3 (Nat.le_trans (Nat.le_of_ble_eq_true (n := 5) (m := 8) rfl) (Nat.le_add_right 8 _)) rfl rfl) (zLe3 (Nat.le_trans (Nat.le_of_ble_eq_true (n := 30) (m := 48) rfl) (Nat.le_add_right 48 _)) rfl rfl) (kk _ _ (if zE3 (¬ zHere σ a1) (¬ zOkA a2 a3) (zNot σ (pn a1)) = 0 then m0 else m0) (zInv_of (zIfW (fun z => zk_setAction hW  z) hW) hC9 ho9 hM10) (Nat.le_of_eq (ite_self _).symm))
set_option maxHeartbeats 4000000 in
set_option maxRecDepth 100000 in
theorem lw_c6 {p : Program} {l : Launch} {e : Env} {s : State} {m : MethodId} {below : List Frame} {meth : Method} {c : Code} {D : va_G} {b Ln : Nat} {xs : Nat → Int32} {Q : State → Prop} (hl : l.stackTraces = false) (K : zLw p s m meth c D b Ln xs) {G : zG} {x y o j m0 cells slots : Nat} {σ : zS} (hI : zInv G x y o σ m0) (h1 : vp_in (nI j + 1) Ln) (h2 : vp_in (nI j + 2) Ln) (h3 : vp_in (nI j + 3) Ln) (hr1 : cells + (8 + (16384 - zK m0)) ≤ 601024) (hr2 : slots + (48 + 4 * (16384 - zK m0)) ≤ 7293033)
    (kk : ∀ (G' : zG) (σ' : zS) (m' : Nat), zInv G' x y o σ' m' → m0 ≤ m' → zV p l e room_1 s m #[Value.ref b] below meth c D (lA s) (cells + (8 + (zK m' - zK m0))) (slots + (48 + 4 * (zK m' - zK m0))) Q G' 1886 (lL b x y o (nI j)) []) : zV p l e room_1 s m #[Value.ref b] below meth c D (lA s) cells slots Q G 606 (lL b x y o (nI j)) [] := by
  obtain ⟨C, hX, hbl, h8⟩ := K
  have hbA : ¬ lA s b := Nat.not_le.mpr hbl
  obtain ⟨hW, ⟨tb, ev, A, hC⟩, ⟨ma, th, hM⟩, w, ho⟩ := hI
  obtain ⟨a1, e1⟩ : ∃ z, xs (nI j + 1).toNatClampNeg = z := ⟨_, rfl⟩
  obtain ⟨a2, e2⟩ : ∃ z, xs (nI j + 2).toNatClampNeg = z := ⟨_, rfl⟩
  obtain ⟨N, hrd, hNw, hNm⟩ := zPick (TH := zE3 (¬ zHere σ a1) (a2 < 0 ∨ (511 : Int32) < a2) (zNot σ (pn a1))) (X := zDel (zMk σ (pn a1) a2, []) (pn a1)) (m0 := m0) (fun z => zk_setMask hW z)
  refine zz_aload_n (pc := 606) C dL_law_606 rfl ?_
  refine zz_aload_n (pc := 607) C dL_law_607 rfl ?_
  refine zz_iload (pc := 608) C dL_law_608 rfl ?_
  refine zz_iconst (pc := 610) C (v := 1) (by decide) dL_law_610 ?_
  refine zz_iadd (pc := 611) C dL_law_611 ?_
  refine zz_sld (pc := 612) C hX hbl hbA h1 e1 dL_law_612 ?_
  refine zz_aload_n (pc := 613) C dL_law_613 rfl ?_
  refine zz_iload (pc := 614) C dL_law_614 rfl ?_
  refine zz_iconst (pc := 616) C (v := 2) (by decide) dL_law_616 ?_
  refine zz_iadd (pc := 617) C dL_law_617 ?_
  refine zz_sld (pc := 618) C hX hbl hbA h2 e2 dL_law_618 ?_
  refine zz_aload_n (pc := 619) C dL_law_619 rfl ?_
  refine zzx_callSW (pc := 620) C h8 (c_L_setMask l hl D (G := G) (x9 := a1) (c9 := a2) (X := zDel (zMk σ (pn a1) a2, []) (pn a1)) (N := N) hC hW rfl hrd ho) gL_law_L_setMask rfl 4 (by decide +kernel) ⟨Nat.le_of_ble_eq_true rfl, Nat.le_of_ble_eq_true rfl⟩ rfl dL_law_620 rfl (Nat.le_of_ble_eq_true rfl) rfl ⟨zRmC hr1 (Nat.le_refl _) (Nat.le_of_ble_eq_true rfl), zRmS hr2 (Nat.le_refl _) (Nat.le_of_ble_eq_true rfl)⟩ (fun E hE => hE.elim) ?_
  rintro v G9 ⟨rfl, ⟨A9, hC9⟩, ⟨w9, ho9, hw9⟩, hk2⟩
  obtain ⟨r, hR, hag, hrth, hring⟩ := hM.mv hk2
  refine zz_istore (pc := 623) C dL_law_623 (Nat.le_of_ble_eq_true rfl) ?_
  refine zz_aload_n (pc := 625) C dL_law_625 rfl ?_
  refine zz_aload_n (pc := 626) C dL_law_626 rfl ?_
  refine zz_iload (pc := 627) C dL_law_627 rfl ?_
  refine zz_iconst (pc := 629) C (v := 1) (by decide) dL_law_629 ?_
  refine zz_iadd (pc := 630) C dL_law_630 ?_
  refine zz_sld (pc := 631) C hX hbl hbA h1 e1 dL_law_631 ?_
  refine zz_aload_n (pc := 632) C dL_law_632 rfl ?_
  refine zz_iload (pc := 633) C dL_law_633 rfl ?_
  refine zz_iconst (pc := 635) C (v := 2) (by decide) dL_law_635 ?_
  refine zz_iadd (pc := 636) C dL_law_636 ?_
  refine zz_sld (pc := 637) C hX hbl hbA h2 e2 dL_law_637 ?_
  have hq1 := zRmU (a := (zRmX 10 253 m0 (zCount N (zDel (zMk σ (pn a1) a2, []) (pn a1)).1 (zDel (zMk σ (pn a1) a2, []) (pn a1)).2) 3).cells) hr1 (Nat.add_le_add (Nat.le_of_ble_eq_true rfl) (Nat.le_refl _))
  have hq2 := zRmV (a := (zRmX 10 253 m0 (zCount N (zDel (zMk σ (pn a1) a2, []) (pn a1)).1 (zDel (zMk σ (pn a1) a2, []) (pn a1)).2) 3).slots) hr2 (Nat.add_le_add (Nat.le_of_ble_eq_true rfl) (Nat.le_refl _))
  refine zz_callV (pc := 638) C (c_X3_setMask l D (σ := σ) (x := a1) (c9 := a2) (N := N) hR hag hring hW.z hW.2.2.2.2.2.2.1 (fun hh hn => hW.lv hh.2.2 hn) (fun z => (hrd z).x)) gL_law_X3_setMask rfl 2 (by decide +kernel) ⟨Nat.le_of_ble_eq_true rfl, Nat.le_of_ble_eq_true rfl⟩ hR.2.1 (ci := 3) rfl rfl rfl dL_law_638 rfl (Nat.le_of_ble_eq_true rfl) rfl ⟨hq1, hq2⟩ ?_
  rintro v G10 ⟨rfl, hM10⟩
  obtain ⟨r10, hR10, hag10, hth10, hring10⟩ := id hM10
  refine zz_istore (pc := 641) C dL_law_641 (Nat.le_of_ble_eq_true rfl) ?_
  refine zz_aload_n (pc := 643) C dL_law_643 rfl ?_
  refine zz_callV (pc := 644) C (c_X3_thrown l D hR10) gL_law_X3_thrown rfl 0 (by decide +kernel) ⟨Nat.le_of_ble_eq_true rfl, Nat.le_of_ble_eq_true rfl⟩ hR10.2.1 (ci := 3) rfl rfl rfl dL_law_644 rfl (Nat.le_of_ble_eq_true rfl) rfl ⟨zRoom0 hq1, zRoom0 hq2⟩ ?_
  rintro v G11 ⟨rfl, rfl⟩
  rw [hth10]
  refine zz_iload (pc := 647) C dL_law_647 rfl ?_
  refine zz_icmp_eq (pc := 649) C (tgt := 654) dL_law_649 (by decide) (fun _ => ?_) (fun h => absurd rfl h)
  refine zz_iload (pc := 654) C dL_law_654 rfl ?_
  refine zz_if_ne (pc := 656) C (tgt := 671) dL_law_656 (by decide) (fun _ => ?_) (fun hcz => ?_)
  · refine zV.less (L' := lL b x y o (nI j)) ⟨rfl, rfl, rfl, rfl, rfl, trivial⟩ ?_
    refine zz_goto (pc := 671) C (tgt := 1886) dL_law_671 (by decide) ?_
    exact zV.widen (zLe3 (Nat.add_le_add (Nat.le_of_ble_eq_true rfl) (Nat.le_of_eq hNw)) rfl rfl) (zLe3 (Nat.add_le_add (Nat.le_of_ble_eq_true rfl) (Nat.mul_le_mul_left 4 (Nat.le_of_eq hNw))) rfl rfl) (kk _ _ (if zE3 (¬ zHere σ a1) (a2 < 0 ∨ (511 : Int32) < a2) (zNot σ (pn a1)) = 0 then max m0 (zCount N (zDel (zMk σ (pn a1) a2, []) (pn a1)).1 (zDel (zMk σ (pn a1) a2, []) (pn a1)).2) else m0) (zInv_of (zIfW (fun z => (hrd z).wf) hW) hC9 ho9 hM10) hNm)
  · skip
    refine zz_aload_n (pc := 659) C dL_law_659 rfl ?_
    refine zz_iconst (pc := 660) C (v := 0) (by decide) dL_law_660 ?_
    refine zz_lald (pc := 661) C dL_law_661 (n := 1) (hM10.fr o 3 _ ho9 (by decide)) (by unfold vp_in; decide) ?_
    refine zz_iload (pc := 662) C dL_law_662 rfl ?_
    refine zz_i2l (pc := 664) C dL_law_664 ?_
    refine zz_lcmp (pc := 665) C dL_law_665 ?_
    refine zz_if_eq (pc := 666) C (tgt := 671) dL_law_666 (by decide) (fun _ => ?_) (fun h => absurd (zCmp_i hw9 (Classical.not_not.mp hcz)) h)
    refine zV.less (L' := lL b x y o (nI j)) ⟨rfl, rfl, rfl, rfl, rfl, trivial⟩ ?_
    refine zz_goto (pc := 671) C (tgt := 1886) dL_law_671 (by decide) ?_
    exact zV.widen (zLe3 (Nat.add_le_add (Nat.le_of_ble_eq_true rfl) (Nat.le_of_eq hNw)) rfl rfl) (zLe3 (Nat.add_le_add (Nat.le_of_ble_eq_true rfl) (Nat.mul_le_mul_left 4 (Nat.le_of_eq hNw))) rfl rfl) (kk _ _ (if zE3 (¬ zHere σ a1) (a2 < 0 ∨ (511 : Int32) < a2) (zNot σ (pn a1)) = 0 then max m0 (zCount N (zDel (zMk σ (pn a1) a2, []) (pn a1)).1 (zDel (zMk σ (pn a1) a2, []) (pn a1)).2) else m0) (zInv_of (zIfW (fun z => (hrd z).wf) hW) hC9 ho9 hM10) hNm)
set_option maxHeartbeats 4000000 in
set_option maxRecDepth 100000 in
theorem lw_c7 {p : Program} {l : Launch} {e : Env} {s : State} {m : MethodId} {below : List Frame} {meth : Method} {c : Code} {D : va_G} {b Ln : Nat} {xs : Nat → Int32} {Q : State → Prop} (hl : l.stackTraces = false) (K : zLw p s m meth c D b Ln xs) {G : zG} {x y o j m0 cells slots : Nat} {σ : zS} (hI : zInv G x y o σ m0) (h1 : vp_in (nI j + 1) Ln) (h2 : vp_in (nI j + 2) Ln) (h3 : vp_in (nI j + 3) Ln) (hr1 : cells + (8 + (16384 - zK m0)) ≤ 601024) (hr2 : slots + (48 + 4 * (16384 - zK m0)) ≤ 7293033)
    (kk : ∀ (G' : zG) (σ' : zS) (m' : Nat), zInv G' x y o σ' m' → m0 ≤ m' → zV p l e room_1 s m #[Value.ref b] below meth c D (lA s) (cells + (8 + (zK m' - zK m0))) (slots + (48 + 4 * (zK m' - zK m0))) Q G' 1886 (lL b x y o (nI j)) []) : zV p l e room_1 s m #[Value.ref b] below meth c D (lA s) cells slots Q G 674 (lL b x y o (nI j)) [] := by
  obtain ⟨C, hX, hbl, h8⟩ := K
  have hbA : ¬ lA s b := Nat.not_le.mpr hbl
  obtain ⟨hW, ⟨tb, ev, A, hC⟩, ⟨ma, th, hM⟩, w, ho⟩ := hI
  obtain ⟨a1, e1⟩ : ∃ z, xs (nI j + 1).toNatClampNeg = z := ⟨_, rfl⟩
  refine zz_aload_n (pc := 674) C dL_law_674 rfl ?_
  refine zz_aload_n (pc := 675) C dL_law_675 rfl ?_
  refine zz_iload (pc := 676) C dL_law_676 rfl ?_
  refine zz_iconst (pc := 678) C (v := 1) (by decide) dL_law_678 ?_
  refine zz_iadd (pc := 679) C dL_law_679 ?_
  refine zz_sld (pc := 680) C hX hbl hbA h1 e1 dL_law_680 ?_
  refine zzx_callSW (pc := 681) C h8 (c_L_beginSession l hl D (G := G) (x9 := a1) hC  ho) gL_law_L_beginSession rfl 2 (by decide +kernel) ⟨Nat.le_of_ble_eq_true rfl, Nat.le_of_ble_eq_true rfl⟩ rfl dL_law_681 rfl (Nat.le_of_ble_eq_true rfl) rfl ⟨zRmC (T := 0) hr1 (Nat.le_add_right 3 _) (Nat.le_of_ble_eq_true rfl), zRmS (T := 0) hr2 (Nat.le_add_right 18 _) (Nat.le_of_ble_eq_true rfl)⟩ (fun E hE => hE.elim) ?_
  rintro v G9 ⟨rfl, ⟨A9, hC9⟩, ⟨w9, ho9, hw9⟩, hk2⟩
  obtain ⟨r, hR, hag, hrth, hring⟩ := hM.mv hk2
  refine zz_istore (pc := 684) C dL_law_684 (Nat.le_of_ble_eq_true rfl) ?_
  refine zz_aload_n (pc := 686) C dL_law_686 rfl ?_
  refine zz_aload_n (pc := 687) C dL_law_687 rfl ?_
  refine zz_iload (pc := 688) C dL_law_688 rfl ?_
  refine zz_iconst (pc := 690) C (v := 1) (by decide) dL_law_690 ?_
  refine zz_iadd (pc := 691) C dL_law_691 ?_
  refine zz_sld (pc := 692) C hX hbl hbA h1 e1 dL_law_692 ?_
  have hq1 := zRmU (a := ({ frames := 8, cells := 3, slots := 18, locals := 134 } : Room).cells) hr1 (T := 0) (Nat.le_trans (Nat.le_of_ble_eq_true (n := 3) (m := 5) rfl) (Nat.le_add_right 5 _))
  have hq2 := zRmV (a := ({ frames := 8, cells := 3, slots := 18, locals := 134 } : Room).slots) hr2 (T := 0) (Nat.le_trans (Nat.le_of_ble_eq_true (n := 18) (m := 40) rfl) (Nat.le_add_right 40 _))
  refine zz_callV (pc := 693) C (c_X3_beginSession l D (σ := σ) (x := a1) hR hag hring hW.z) gL_law_X3_beginSession rfl 1 (by decide +kernel) ⟨Nat.le_of_ble_eq_true rfl, Nat.le_of_ble_eq_true rfl⟩ hR.2.1 (ci := 3) rfl rfl rfl dL_law_693 rfl (Nat.le_of_ble_eq_true rfl) rfl ⟨hq1, hq2⟩ ?_
  rintro v G10 ⟨rfl, hM10⟩
  obtain ⟨r10, hR10, hag10, hth10, hring10⟩ := id hM10
  refine zz_aload_n (pc := 696) C dL_law_696 rfl ?_
  refine zz_callV (pc := 697) C (c_X3_thrown l D hR10) gL_law_X3_thrown rfl 0 (by decide +kernel) ⟨Nat.le_of_ble_eq_true rfl, Nat.le_of_ble_eq_true rfl⟩ hR10.2.1 (ci := 3) rfl rfl rfl dL_law_697 rfl (Nat.le_of_ble_eq_true rfl) rfl ⟨zRoom0 hq1, zRoom0 hq2⟩ ?_
  rintro v G11 ⟨rfl, rfl⟩
  rw [hth10]
  refine zz_iload (pc := 700) C dL_law_700 rfl ?_
  refine zz_icmp_eq (pc := 702) C (tgt := 707) dL_law_702 (by decide) (fun _ => ?_) (fun h => absurd rfl h)
  refine zV.less (L' := lL b x y o (nI j)) ⟨rfl, rfl, rfl, rfl, rfl, trivial⟩ ?_
  refine zz_goto (pc := 707) C (tgt := 1886) dL_law_707 (by decide) ?_
  exact zV.widen (zLe3 (Nat.le_trans (Nat.le_of_ble_eq_true (n := 3) (m := 8) rfl) (Nat.le_add_right 8 _)) rfl rfl) (zLe3 (Nat.le_trans (Nat.le_of_ble_eq_true (n := 18) (m := 48) rfl) (Nat.le_add_right 48 _)) rfl rfl) (kk _ _ (if zE2 (¬ zHere σ a1) (zNot σ (pn a1) ∨ zIsGrp σ a1 41) = 0 then m0 else m0) (zInv_of (zIfW (fun z => zk_beginSession hW  z) hW) hC9 ho9 hM10) (Nat.le_of_eq (ite_self _).symm))
set_option maxHeartbeats 4000000 in
set_option maxRecDepth 100000 in
theorem lw_c8 {p : Program} {l : Launch} {e : Env} {s : State} {m : MethodId} {below : List Frame} {meth : Method} {c : Code} {D : va_G} {b Ln : Nat} {xs : Nat → Int32} {Q : State → Prop} (hl : l.stackTraces = false) (K : zLw p s m meth c D b Ln xs) {G : zG} {x y o j m0 cells slots : Nat} {σ : zS} (hI : zInv G x y o σ m0) (h1 : vp_in (nI j + 1) Ln) (h2 : vp_in (nI j + 2) Ln) (h3 : vp_in (nI j + 3) Ln) (hr1 : cells + (8 + (16384 - zK m0)) ≤ 601024) (hr2 : slots + (48 + 4 * (16384 - zK m0)) ≤ 7293033)
    (kk : ∀ (G' : zG) (σ' : zS) (m' : Nat), zInv G' x y o σ' m' → m0 ≤ m' → zV p l e room_1 s m #[Value.ref b] below meth c D (lA s) (cells + (8 + (zK m' - zK m0))) (slots + (48 + 4 * (zK m' - zK m0))) Q G' 1886 (lL b x y o (nI j)) []) : zV p l e room_1 s m #[Value.ref b] below meth c D (lA s) cells slots Q G 710 (lL b x y o (nI j)) [] := by
  obtain ⟨C, hX, hbl, h8⟩ := K
  have hbA : ¬ lA s b := Nat.not_le.mpr hbl
  obtain ⟨hW, ⟨tb, ev, A, hC⟩, ⟨ma, th, hM⟩, w, ho⟩ := hI
  obtain ⟨a1, e1⟩ : ∃ z, xs (nI j + 1).toNatClampNeg = z := ⟨_, rfl⟩
  obtain ⟨a2, e2⟩ : ∃ z, xs (nI j + 2).toNatClampNeg = z := ⟨_, rfl⟩
  obtain ⟨a3, e3⟩ : ∃ z, xs (nI j + 3).toNatClampNeg = z := ⟨_, rfl⟩
  refine zz_aload_n (pc := 710) C dL_law_710 rfl ?_
  refine zz_aload_n (pc := 711) C dL_law_711 rfl ?_
  refine zz_iload (pc := 712) C dL_law_712 rfl ?_
  refine zz_iconst (pc := 714) C (v := 1) (by decide) dL_law_714 ?_
  refine zz_iadd (pc := 715) C dL_law_715 ?_
  refine zz_sld (pc := 716) C hX hbl hbA h1 e1 dL_law_716 ?_
  refine zz_aload_n (pc := 717) C dL_law_717 rfl ?_
  refine zz_iload (pc := 718) C dL_law_718 rfl ?_
  refine zz_iconst (pc := 720) C (v := 2) (by decide) dL_law_720 ?_
  refine zz_iadd (pc := 721) C dL_law_721 ?_
  refine zz_sld (pc := 722) C hX hbl hbA h2 e2 dL_law_722 ?_
  refine zz_aload_n (pc := 723) C dL_law_723 rfl ?_
  refine zz_iload (pc := 724) C dL_law_724 rfl ?_
  refine zz_iconst (pc := 726) C (v := 3) (by decide) dL_law_726 ?_
  refine zz_iadd (pc := 727) C dL_law_727 ?_
  refine zz_sld (pc := 728) C hX hbl hbA h3 e3 dL_law_728 ?_
  refine zz_aload_n (pc := 729) C dL_law_729 rfl ?_
  refine zzx_callSW (pc := 730) C h8 (c_L_setGroup l hl D (G := G) (x9 := a1) (t9 := a2) (g9 := a3) hC hW ho) gL_law_L_setGroup rfl 5 (by decide +kernel) ⟨Nat.le_of_ble_eq_true rfl, Nat.le_of_ble_eq_true rfl⟩ rfl dL_law_730 rfl (Nat.le_of_ble_eq_true rfl) rfl ⟨zRmC (T := 0) hr1 (Nat.le_add_right 5 _) (Nat.le_of_ble_eq_true rfl), zRmS (T := 0) hr2 (Nat.le_add_right 30 _) (Nat.le_of_ble_eq_true rfl)⟩ (fun E hE => hE.elim) ?_
  rintro v G9 ⟨rfl, ⟨A9, hC9⟩, ⟨w9, ho9, hw9⟩, hk2⟩
  obtain ⟨r, hR, hag, hrth, hring⟩ := hM.mv hk2
  refine zz_istore (pc := 733) C dL_law_733 (Nat.le_of_ble_eq_true rfl) ?_
  refine zz_aload_n (pc := 735) C dL_law_735 rfl ?_
  refine zz_aload_n (pc := 736) C dL_law_736 rfl ?_
  refine zz_iload (pc := 737) C dL_law_737 rfl ?_
  refine zz_iconst (pc := 739) C (v := 1) (by decide) dL_law_739 ?_
  refine zz_iadd (pc := 740) C dL_law_740 ?_
  refine zz_sld (pc := 741) C hX hbl hbA h1 e1 dL_law_741 ?_
  refine zz_aload_n (pc := 742) C dL_law_742 rfl ?_
  refine zz_iload (pc := 743) C dL_law_743 rfl ?_
  refine zz_iconst (pc := 745) C (v := 2) (by decide) dL_law_745 ?_
  refine zz_iadd (pc := 746) C dL_law_746 ?_
  refine zz_sld (pc := 747) C hX hbl hbA h2 e2 dL_law_747 ?_
  refine zz_aload_n (pc := 748) C dL_law_748 rfl ?_
  refine zz_iload (pc := 749) C dL_law_749 rfl ?_
  refine zz_iconst (pc := 751) C (v := 3) (by decide) dL_law_751 ?_
  refine zz_iadd (pc := 752) C dL_law_752 ?_
  refine zz_sld (pc := 753) C hX hbl hbA h3 e3 dL_law_753 ?_
  have hq1 := zRmU (a := ({ frames := 9, cells := 5, slots := 30, locals := 158 } : Room).cells) hr1 (T := 0) (Nat.le_trans (Nat.le_of_ble_eq_true (n := 5) (m := 5) rfl) (Nat.le_add_right 5 _))
  have hq2 := zRmV (a := ({ frames := 9, cells := 5, slots := 30, locals := 158 } : Room).slots) hr2 (T := 0) (Nat.le_trans (Nat.le_of_ble_eq_true (n := 30) (m := 40) rfl) (Nat.le_add_right 40 _))
  refine zz_callV (pc := 754) C (c_X3_setGroup l D (σ := σ) (x := a1) (t := a2) (g9 := a3) hR hag hring hW.z) gL_law_X3_setGroup rfl 3 (by decide +kernel) ⟨Nat.le_of_ble_eq_true rfl, Nat.le_of_ble_eq_true rfl⟩ hR.2.1 (ci := 3) rfl rfl rfl dL_law_754 rfl (Nat.le_of_ble_eq_true rfl) rfl ⟨hq1, hq2⟩ ?_
  rintro v G10 ⟨rfl, hM10⟩
  obtain ⟨r10, hR10, hag10, hth10, hring10⟩ := id hM10
  refine zz_istore (pc := 757) C dL_law_757 (Nat.le_of_ble_eq_true rfl) ?_
  refine zz_aload_n (pc := 759) C dL_law_759 rfl ?_
  refine zz_callV (pc := 760) C (c_X3_thrown l D hR10) gL_law_X3_thrown rfl 0 (by decide +kernel) ⟨Nat.le_of_ble_eq_true rfl, Nat.le_of_ble_eq_true rfl⟩ hR10.2.1 (ci := 3) rfl rfl rfl dL_law_760 rfl (Nat.le_of_ble_eq_true rfl) rfl ⟨zRoom0 hq1, zRoom0 hq2⟩ ?_
  rintro v G11 ⟨rfl, rfl⟩
  rw [hth10]
  refine zz_iload (pc := 763) C dL_law_763 rfl ?_
  refine zz_icmp_eq (pc := 765) C (tgt := 770) dL_law_765 (by decide) (fun _ => ?_) (fun h => absurd rfl h)
  refine zz_iload (pc := 770) C dL_law_770 rfl ?_
  refine zz_if_ne (pc := 772) C (tgt := 787) dL_law_772 (by decide) (fun _ => ?_) (fun hcz => ?_)
  · refine zV.less (L' := lL b x y o (nI j)) ⟨rfl, rfl, rfl, rfl, rfl, trivial⟩ ?_
    refine zz_goto (pc := 787) C (tgt := 1886) dL_law_787 (by decide) ?_
    exact zV.widen (zLe3 (Nat.le_trans (Nat.le_of_ble_eq_true (n := 5) (m := 8) rfl) (Nat.le_add_right 8 _)) rfl rfl) (zLe3 (Nat.le_trans (Nat.le_of_ble_eq_true (n := 30) (m := 48) rfl) (Nat.le_add_right 48 _)) rfl rfl) (kk _ _ (if zE3 (¬ zHere σ a1 ∨ ¬ zHere σ a2) (a3 < 1 ∨ (40 : Int32) < a3) (zNot σ (pn a1) ∨ ¬ zPoss σ (pn a1) (pn a2) a3) = 0 then m0 else m0) (zInv_of (zIfW (fun z => zk_setGroup hW  z) hW) hC9 ho9 hM10) (Nat.le_of_eq (ite_self _).symm))
  · skip
    refine zz_aload_n (pc := 775) C dL_law_775 rfl ?_
    refine zz_iconst (pc := 776) C (v := 0) (by decide) dL_law_776 ?_
    refine zz_lald (pc := 777) C dL_law_777 (n := 1) (hM10.fr o 3 _ ho9 (by decide)) (by unfold vp_in; decide) ?_
    refine zz_iload (pc := 778) C dL_law_778 rfl ?_
    refine zz_i2l (pc := 780) C dL_law_780 ?_
    refine zz_lcmp (pc := 781) C dL_law_781 ?_
    refine zz_if_eq (pc := 782) C (tgt := 787) dL_law_782 (by decide) (fun _ => ?_) (fun h => absurd (zCmp_i hw9 (Classical.not_not.mp hcz)) h)
    refine zV.less (L' := lL b x y o (nI j)) ⟨rfl, rfl, rfl, rfl, rfl, trivial⟩ ?_
    refine zz_goto (pc := 787) C (tgt := 1886) dL_law_787 (by decide) ?_
    exact zV.widen (zLe3 (Nat.le_trans (Nat.le_of_ble_eq_true (n := 5) (m := 8) rfl) (Nat.le_add_right 8 _)) rfl rfl) (zLe3 (Nat.le_trans (Nat.le_of_ble_eq_true (n := 30) (m := 48) rfl) (Nat.le_add_right 48 _)) rfl rfl) (kk _ _ (if zE3 (¬ zHere σ a1 ∨ ¬ zHere σ a2) (a3 < 1 ∨ (40 : Int32) < a3) (zNot σ (pn a1) ∨ ¬ zPoss σ (pn a1) (pn a2) a3) = 0 then m0 else m0) (zInv_of (zIfW (fun z => zk_setGroup hW  z) hW) hC9 ho9 hM10) (Nat.le_of_eq (ite_self _).symm))
