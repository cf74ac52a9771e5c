set_option maxHeartbeats 4000000 in
set_option maxRecDepth 100000 in
theorem lw_c24 {p : Program} {l : Launch} {e : Env} {s : State} {m : MethodId} {below : List Frame} {meth : Method} {c : Code} {D : va_G} {b Ln : Nat} {xs : Nat → Int32} {Q : State → Prop} (hl : l.stackTraces = false) (K : zLw p s m meth c D b Ln xs) {G : zG} {x y o j m0 cells slots : Nat} {σ : zS} (hI : zInv G x y o σ m0) (h1 : vp_in (nI j + 1) Ln) (h2 : vp_in (nI j + 2) Ln) (h3 : vp_in (nI j + 3) Ln) (hr1 : cells + (8 + (16384 - zK m0)) ≤ 601024) (hr2 : slots + (48 + 4 * (16384 - zK m0)) ≤ 7293033)
    (kk : ∀ (G' : zG) (σ' : zS) (m' : Nat), zInv G' x y o σ' m' → m0 ≤ m' → zV p l e room_1 s m #[Value.ref b] below meth c D (lA s) (cells + (8 + (zK m' - zK m0))) (slots + (48 + 4 * (zK m' - zK m0))) Q G' 1886 (lL b x y o (nI j)) []) : zV p l e room_1 s m #[Value.ref b] below meth c D (lA s) cells slots Q G 1629 (lL b x y o (nI j)) [] := by
  obtain ⟨C, hX, hbl, h8⟩ := K
  have hbA : ¬ lA s b := Nat.not_le.mpr hbl
  obtain ⟨hW, ⟨tb, ev, A, hC⟩, ⟨ma, th, hM⟩, w, ho⟩ := hI
  obtain ⟨a1, e1⟩ : ∃ z, xs (nI j + 1).toNatClampNeg = z := ⟨_, rfl⟩
  refine zz_aload_n (pc := 1629) C dL_law_1629 rfl ?_
  refine zz_aload_n (pc := 1630) C dL_law_1630 rfl ?_
  refine zz_iload (pc := 1631) C dL_law_1631 rfl ?_
  refine zz_iconst (pc := 1633) C (v := 1) (by decide) dL_law_1633 ?_
  refine zz_iadd (pc := 1634) C dL_law_1634 ?_
  refine zz_sld (pc := 1635) C hX hbl hbA h1 e1 dL_law_1635 ?_
  refine zz_aload_n (pc := 1636) C dL_law_1636 rfl ?_
  refine zzx_callSW (pc := 1637) C h8 (c_L_isOrphaned l hl D (G := G) (x9 := a1) hC hW.has ho) gL_law_L_isOrphaned rfl 3 (by decide +kernel) ⟨Nat.le_of_ble_eq_true rfl, Nat.le_of_ble_eq_true rfl⟩ rfl dL_law_1637 rfl (Nat.le_of_ble_eq_true rfl) rfl ⟨zRmC (T := 0) hr1 (Nat.le_add_right 1 _) (Nat.le_of_ble_eq_true rfl), zRmS (T := 0) hr2 (Nat.le_add_right 6 _) (Nat.le_of_ble_eq_true rfl)⟩ (fun E hE => hE.elim) ?_
  rintro v G9 ⟨rfl, ⟨A9, hC9⟩, ⟨w9, ho9, hw9⟩, hk2⟩
  obtain ⟨r, hR, hag, hrth, hring⟩ := hM.mv hk2
  refine zz_istore (pc := 1640) C dL_law_1640 (Nat.le_of_ble_eq_true rfl) ?_
  refine zz_aload_n (pc := 1642) C dL_law_1642 rfl ?_
  refine zz_aload_n (pc := 1643) C dL_law_1643 rfl ?_
  refine zz_iload (pc := 1644) C dL_law_1644 rfl ?_
  refine zz_iconst (pc := 1646) C (v := 1) (by decide) dL_law_1646 ?_
  refine zz_iadd (pc := 1647) C dL_law_1647 ?_
  refine zz_sld (pc := 1648) C hX hbl hbA h1 e1 dL_law_1648 ?_
  have hq1 := zRmU (a := ({ frames := 9, cells := 1, slots := 6, locals := 153 } : Room).cells) hr1 (T := 0) (Nat.le_trans (Nat.le_of_ble_eq_true (n := 1) (m := 5) rfl) (Nat.le_add_right 5 _))
  have hq2 := zRmV (a := ({ frames := 9, cells := 1, slots := 6, locals := 153 } : Room).slots) hr2 (T := 0) (Nat.le_trans (Nat.le_of_ble_eq_true (n := 6) (m := 40) rfl) (Nat.le_add_right 40 _))
  refine zz_callV (pc := 1649) C (c_X3_isOrphaned l D (σ := σ) (x := a1) hR hag hring hW.z (fun k _ k0 _ k1 => (hW.par k0 k1).imp (fun j q => ⟨q.2.2.1, q.1⟩))) gL_law_X3_isOrphaned rfl 1 (by decide +kernel) ⟨Nat.le_of_ble_eq_true rfl, Nat.le_of_ble_eq_true rfl⟩ hR.2.1 (ci := 3) rfl rfl rfl dL_law_1649 rfl (Nat.le_of_ble_eq_true rfl) rfl ⟨hq1, hq2⟩ ?_
  rintro v G10 ⟨rfl, hM10⟩
  obtain ⟨r10, hR10, hag10, hth10, hring10⟩ := id hM10
  refine zz_istore (pc := 1652) C dL_law_1652 (Nat.le_of_ble_eq_true rfl) ?_
  refine zz_aload_n (pc := 1654) C dL_law_1654 rfl ?_
  refine zz_callV (pc := 1655) C (c_X3_thrown l D hR10) gL_law_X3_thrown rfl 0 (by decide +kernel) ⟨Nat.le_of_ble_eq_true rfl, Nat.le_of_ble_eq_true rfl⟩ hR10.2.1 (ci := 3) rfl rfl rfl dL_law_1655 rfl (Nat.le_of_ble_eq_true rfl) rfl ⟨zRoom0 hq1, zRoom0 hq2⟩ ?_
  rintro v G11 ⟨rfl, rfl⟩
  rw [hth10]
  refine zz_iload (pc := 1658) C dL_law_1658 rfl ?_
  refine zz_icmp_eq (pc := 1660) C (tgt := 1665) dL_law_1660 (by decide) (fun _ => ?_) (fun h => absurd rfl h)
  refine zz_iload (pc := 1665) C dL_law_1665 rfl ?_
  refine zz_if_ne (pc := 1667) C (tgt := 1689) dL_law_1667 (by decide) (fun _ => ?_) (fun hcz => ?_)
  · refine zV.less (L' := lL b x y o (nI j)) ⟨rfl, rfl, rfl, rfl, rfl, trivial⟩ ?_
    refine zz_goto (pc := 1689) C (tgt := 1886) dL_law_1689 (by decide) ?_
    exact zV.widen (zLe3 (Nat.le_trans (Nat.le_of_ble_eq_true (n := 1) (m := 8) rfl) (Nat.le_add_right 8 _)) rfl rfl) (zLe3 (Nat.le_trans (Nat.le_of_ble_eq_true (n := 6) (m := 48) rfl) (Nat.le_add_right 48 _)) rfl rfl) (kk _ _ (if zE1 (a1 < 1 ∨ (40 : Int32) < a1) = 0 then m0 else m0) (zInv_of (zIfW (fun _ => hW) hW) hC9 ho9 hM10) (Nat.le_of_eq (ite_self _).symm))
  · skip
    refine zz_aload_n (pc := 1670) C dL_law_1670 rfl ?_
    refine zz_iconst (pc := 1671) C (v := 0) (by decide) dL_law_1671 ?_
    refine zz_lald (pc := 1672) C dL_law_1672 (n := 1) (hM10.fr o 3 _ ho9 (by decide)) (by unfold vp_in; decide) ?_
    refine zz_iload (pc := 1673) C dL_law_1673 rfl ?_
    refine zz_flagL (pc := 1675) C dL_law_1675 dL_law_1678 dL_law_1679 dL_law_1682 ?_
    refine zz_lcmp (pc := 1683) C dL_law_1683 ?_
    refine zz_if_eq (pc := 1684) C (tgt := 1689) dL_law_1684 (by decide) (fun _ => ?_) (fun h => absurd (zCmp_b hw9 (Classical.not_not.mp hcz)) h)
    refine zV.less (L' := lL b x y o (nI j)) ⟨rfl, rfl, rfl, rfl, rfl, trivial⟩ ?_
    refine zz_goto (pc := 1689) C (tgt := 1886) dL_law_1689 (by decide) ?_
    exact zV.widen (zLe3 (Nat.le_trans (Nat.le_of_ble_eq_true (n := 1) (m := 8) rfl) (Nat.le_add_right 8 _)) rfl rfl) (zLe3 (Nat.le_trans (Nat.le_of_ble_eq_true (n := 6) (m := 48) rfl) (Nat.le_add_right 48 _)) rfl rfl) (kk _ _ (if zE1 (a1 < 1 ∨ (40 : Int32) < a1) = 0 then m0 else m0) (zInv_of (zIfW (fun _ => hW) hW) hC9 ho9 hM10) (Nat.le_of_eq (ite_self _).symm))
set_option maxHeartbeats 4000000 in
set_option maxRecDepth 100000 in
theorem lw_c25 {p : Program} {l : Launch} {e : Env} {s : State} {m : MethodId} {below : List Frame} {meth : Method} {c : Code} {D : va_G} {b Ln : Nat} {xs : Nat → Int32} {Q : State → Prop} (hl : l.stackTraces = false) (K : zLw p s m meth c D b Ln xs) {G : zG} {x y o j m0 cells slots : Nat} {σ : zS} (hI : zInv G x y o σ m0) (h1 : vp_in (nI j + 1) Ln) (h2 : vp_in (nI j + 2) Ln) (h3 : vp_in (nI j + 3) Ln) (hr1 : cells + (8 + (16384 - zK m0)) ≤ 601024) (hr2 : slots + (48 + 4 * (16384 - zK m0)) ≤ 7293033)
    (kk : ∀ (G' : zG) (σ' : zS) (m' : Nat), zInv G' x y o σ' m' → m0 ≤ m' → zV p l e room_1 s m #[Value.ref b] below meth c D (lA s) (cells + (8 + (zK m' - zK m0))) (slots + (48 + 4 * (zK m' - zK m0))) Q G' 1886 (lL b x y o (nI j)) []) : zV p l e room_1 s m #[Value.ref b] below meth c D (lA s) cells slots Q G 1692 (lL b x y o (nI j)) [] := by
  obtain ⟨C, hX, hbl, h8⟩ := K
  have hbA : ¬ lA s b := Nat.not_le.mpr hbl
  obtain ⟨hW, ⟨tb, ev, A, hC⟩, ⟨ma, th, hM⟩, w, ho⟩ := hI
  refine zz_aload_n (pc := 1692) C dL_law_1692 rfl ?_
  refine zz_callV (pc := 1693) C (c_X2_terminalSession l D hC) gL_law_X2_terminalSession rfl 0 (by decide +kernel) ⟨Nat.le_of_ble_eq_true rfl, Nat.le_of_ble_eq_true rfl⟩ hC.x (ci := 2) rfl rfl rfl dL_law_1693 rfl (Nat.le_of_ble_eq_true rfl) rfl ⟨zRmU (a := 0) (T := 0) hr1 (Nat.zero_le _), zRmV (a := 0) (T := 0) hr2 (Nat.zero_le _)⟩ ?_
  rintro v G9 ⟨rfl, rfl⟩
  obtain ⟨r, hR, hag, hrth, hring⟩ := hM
  refine zz_aload_n (pc := 1696) C dL_law_1696 rfl ?_
  refine zz_callV (pc := 1697) C (c_X3_terminalSession l D hR hag hring) gL_law_X3_terminalSession rfl 0 (by decide +kernel) ⟨Nat.le_of_ble_eq_true rfl, Nat.le_of_ble_eq_true rfl⟩ hR.2.1 (ci := 3) rfl rfl rfl dL_law_1697 rfl (Nat.le_of_ble_eq_true rfl) rfl ⟨zRmU (a := 0) (T := 0) hr1 (Nat.zero_le _), zRmV (a := 0) (T := 0) hr2 (Nat.zero_le _)⟩ ?_
  rintro v G10 ⟨rfl, hM10⟩
  refine zz_icmp_eq (pc := 1700) C (tgt := 1886) dL_law_1700 (by decide) (fun _ => ?_) (fun h => absurd rfl h)
  exact zV.widen (zLe2 rfl rfl) (zLe2 rfl rfl) (kk G10 σ m0 (zInv_of hW (hC.mv (fun a e h => h)) ho hM10) (Nat.le_refl _))
set_option maxHeartbeats 4000000 in
set_option maxRecDepth 100000 in
theorem lw_c26 {p : Program} {l : Launch} {e : Env} {s : State} {m : MethodId} {below : List Frame} {meth : Method} {c : Code} {D : va_G} {b Ln : Nat} {xs : Nat → Int32} {Q : State → Prop} (hl : l.stackTraces = false) (K : zLw p s m meth c D b Ln xs) {G : zG} {x y o j m0 cells slots : Nat} {σ : zS} (hI : zInv G x y o σ m0) (h1 : vp_in (nI j + 1) Ln) (h2 : vp_in (nI j + 2) Ln) (h3 : vp_in (nI j + 3) Ln) (hr1 : cells + (8 + (16384 - zK m0)) ≤ 601024) (hr2 : slots + (48 + 4 * (16384 - zK m0)) ≤ 7293033)
    (kk : ∀ (G' : zG) (σ' : zS) (m' : Nat), zInv G' x y o σ' m' → m0 ≤ m' → zV p l e room_1 s m #[Value.ref b] below meth c D (lA s) (cells + (8 + (zK m' - zK m0))) (slots + (48 + 4 * (zK m' - zK m0))) Q G' 1886 (lL b x y o (nI j)) []) : zV p l e room_1 s m #[Value.ref b] below meth c D (lA s) cells slots Q G 1705 (lL b x y o (nI j)) [] := by
  obtain ⟨C, hX, hbl, h8⟩ := K
  have hbA : ¬ lA s b := Nat.not_le.mpr hbl
  obtain ⟨hW, ⟨tb, ev, A, hC⟩, ⟨ma, th, hM⟩, w, ho⟩ := hI
  refine zz_aload_n (pc := 1705) C dL_law_1705 rfl ?_
  refine zz_callV (pc := 1706) C (c_X2_foreground l D hC) gL_law_X2_foreground rfl 0 (by decide +kernel) ⟨Nat.le_of_ble_eq_true rfl, Nat.le_of_ble_eq_true rfl⟩ hC.x (ci := 2) rfl rfl rfl dL_law_1706 rfl (Nat.le_of_ble_eq_true rfl) rfl ⟨zRmU (a := 0) (T := 0) hr1 (Nat.zero_le _), zRmV (a := 0) (T := 0) hr2 (Nat.zero_le _)⟩ ?_
  rintro v G9 ⟨rfl, rfl⟩
  obtain ⟨r, hR, hag, hrth, hring⟩ := hM
  refine zz_aload_n (pc := 1709) C dL_law_1709 rfl ?_
  refine zz_callV (pc := 1710) C (c_X3_foreground l D hR hag hring) gL_law_X3_foreground rfl 0 (by decide +kernel) ⟨Nat.le_of_ble_eq_true rfl, Nat.le_of_ble_eq_true rfl⟩ hR.2.1 (ci := 3) rfl rfl rfl dL_law_1710 rfl (Nat.le_of_ble_eq_true rfl) rfl ⟨zRmU (a := 0) (T := 0) hr1 (Nat.zero_le _), zRmV (a := 0) (T := 0) hr2 (Nat.zero_le _)⟩ ?_
  rintro v G10 ⟨rfl, hM10⟩
  refine zz_icmp_eq (pc := 1713) C (tgt := 1886) dL_law_1713 (by decide) (fun _ => ?_) (fun h => absurd rfl h)
  exact zV.widen (zLe2 rfl rfl) (zLe2 rfl rfl) (kk G10 σ m0 (zInv_of hW (hC.mv (fun a e h => h)) ho hM10) (Nat.le_refl _))
set_option maxHeartbeats 4000000 in
set_option maxRecDepth 100000 in
theorem lw_c27 {p : Program} {l : Launch} {e : Env} {s : State} {m : MethodId} {below : List Frame} {meth : Method} {c : Code} {D : va_G} {b Ln : Nat} {xs : Nat → Int32} {Q : State → Prop} (hl : l.stackTraces = false) (K : zLw p s m meth c D b Ln xs) {G : zG} {x y o j m0 cells slots : Nat} {σ : zS} (hI : zInv G x y o σ m0) (h1 : vp_in (nI j + 1) Ln) (h2 : vp_in (nI j + 2) Ln) (h3 : vp_in (nI j + 3) Ln) (hr1 : cells + (8 + (16384 - zK m0)) ≤ 601024) (hr2 : slots + (48 + 4 * (16384 - zK m0)) ≤ 7293033)
    (kk : ∀ (G' : zG) (σ' : zS) (m' : Nat), zInv G' x y o σ' m' → m0 ≤ m' → zV p l e room_1 s m #[Value.ref b] below meth c D (lA s) (cells + (8 + (zK m' - zK m0))) (slots + (48 + 4 * (zK m' - zK m0))) Q G' 1886 (lL b x y o (nI j)) []) : zV p l e room_1 s m #[Value.ref b] below meth c D (lA s) cells slots Q G 1718 (lL b x y o (nI j)) [] := by
  obtain ⟨C, hX, hbl, h8⟩ := K
  have hbA : ¬ lA s b := Nat.not_le.mpr hbl
  obtain ⟨hW, ⟨tb, ev, A, hC⟩, ⟨ma, th, hM⟩, w, ho⟩ := hI
  obtain ⟨a1, e1⟩ : ∃ z, xs (nI j + 1).toNatClampNeg = z := ⟨_, rfl⟩
  refine zz_aload_n (pc := 1718) C dL_law_1718 rfl ?_
  refine zz_aload_n (pc := 1719) C dL_law_1719 rfl ?_
  refine zz_iload (pc := 1720) C dL_law_1720 rfl ?_
  refine zz_iconst (pc := 1722) C (v := 1) (by decide) dL_law_1722 ?_
  refine zz_iadd (pc := 1723) C dL_law_1723 ?_
  refine zz_sld (pc := 1724) C hX hbl hbA h1 e1 dL_law_1724 ?_
  refine zz_aload_n (pc := 1725) C dL_law_1725 rfl ?_
  refine zzx_callSW (pc := 1726) C h8 (c_L_waitResult l hl D (G := G) (x9 := a1) hC  ho) gL_law_L_waitResult rfl 3 (by decide +kernel) ⟨Nat.le_of_ble_eq_true rfl, Nat.le_of_ble_eq_true rfl⟩ rfl dL_law_1726 rfl (Nat.le_of_ble_eq_true rfl) rfl ⟨zRmC (T := 0) hr1 (Nat.le_add_right 1 _) (Nat.le_of_ble_eq_true rfl), zRmS (T := 0) hr2 (Nat.le_add_right 6 _) (Nat.le_of_ble_eq_true rfl)⟩ (fun E hE => hE.elim) ?_
  rintro v G9 ⟨rfl, ⟨A9, hC9⟩, ⟨w9, ho9, hw9⟩, hk2⟩
  obtain ⟨r, hR, hag, hrth, hring⟩ := hM.mv hk2
  refine zz_istore (pc := 1729) C dL_law_1729 (Nat.le_of_ble_eq_true rfl) ?_
  refine zz_aload_n (pc := 1731) C dL_law_1731 rfl ?_
  refine zz_aload_n (pc := 1732) C dL_law_1732 rfl ?_
  refine zz_iload (pc := 1733) C dL_law_1733 rfl ?_
  refine zz_iconst (pc := 1735) C (v := 1) (by decide) dL_law_1735 ?_
  refine zz_iadd (pc := 1736) C dL_law_1736 ?_
  refine zz_sld (pc := 1737) C hX hbl hbA h1 e1 dL_law_1737 ?_
  have hq1 := zRmU (a := ({ frames := 8, cells := 1, slots := 6, locals := 133 } : Room).cells) hr1 (T := 0) (Nat.le_trans (Nat.le_of_ble_eq_true (n := 1) (m := 5) rfl) (Nat.le_add_right 5 _))
  have hq2 := zRmV (a := ({ frames := 8, cells := 1, slots := 6, locals := 133 } : Room).slots) hr2 (T := 0) (Nat.le_trans (Nat.le_of_ble_eq_true (n := 6) (m := 40) rfl) (Nat.le_add_right 40 _))
  refine zz_callV (pc := 1738) C (c_X3_waitResult l D (σ := σ) (x := a1) hR hag hring ) gL_law_X3_waitResult rfl 1 (by decide +kernel) ⟨Nat.le_of_ble_eq_true rfl, Nat.le_of_ble_eq_true rfl⟩ hR.2.1 (ci := 3) rfl rfl rfl dL_law_1738 rfl (Nat.le_of_ble_eq_true rfl) rfl ⟨hq1, hq2⟩ ?_
  rintro v G10 ⟨rfl, hM10⟩
  obtain ⟨r10, hR10, hag10, hth10, hring10⟩ := id hM10
  refine zz_istore (pc := 1741) C dL_law_1741 (Nat.le_of_ble_eq_true rfl) ?_
  refine zz_aload_n (pc := 1743) C dL_law_1743 rfl ?_
  refine zz_callV (pc := 1744) C (c_X3_thrown l D hR10) gL_law_X3_thrown rfl 0 (by decide +kernel) ⟨Nat.le_of_ble_eq_true rfl, Nat.le_of_ble_eq_true rfl⟩ hR10.2.1 (ci := 3) rfl rfl rfl dL_law_1744 rfl (Nat.le_of_ble_eq_true rfl) rfl ⟨zRoom0 hq1, zRoom0 hq2⟩ ?_
  rintro v G11 ⟨rfl, rfl⟩
  rw [hth10]
  refine zz_iload (pc := 1747) C dL_law_1747 rfl ?_
  refine zz_icmp_eq (pc := 1749) C (tgt := 1754) dL_law_1749 (by decide) (fun _ => ?_) (fun h => absurd rfl h)
  refine zz_iload (pc := 1754) C dL_law_1754 rfl ?_
  refine zz_if_ne (pc := 1756) C (tgt := 1771) dL_law_1756 (by decide) (fun _ => ?_) (fun hcz => ?_)
  · refine zV.less (L' := lL b x y o (nI j)) ⟨rfl, rfl, rfl, rfl, rfl, trivial⟩ ?_
    refine zz_goto (pc := 1771) C (tgt := 1886) dL_law_1771 (by decide) ?_
    exact zV.widen (zLe3 (Nat.le_trans (Nat.le_of_ble_eq_true (n := 1) (m := 8) rfl) (Nat.le_add_right 8 _)) rfl rfl) (zLe3 (Nat.le_trans (Nat.le_of_ble_eq_true (n := 6) (m := 48) rfl) (Nat.le_add_right 48 _)) rfl rfl) (kk _ _ (if zE1 (¬ zHere σ a1) = 0 then m0 else m0) (zInv_of (zIfW (fun _ => hW) hW) hC9 ho9 hM10) (Nat.le_of_eq (ite_self _).symm))
  · skip
    refine zz_aload_n (pc := 1759) C dL_law_1759 rfl ?_
    refine zz_iconst (pc := 1760) C (v := 0) (by decide) dL_law_1760 ?_
    refine zz_lald (pc := 1761) C dL_law_1761 (n := 1) (hM10.fr o 3 _ ho9 (by decide)) (by unfold vp_in; decide) ?_
    refine zz_iload (pc := 1762) C dL_law_1762 rfl ?_
    refine zz_i2l (pc := 1764) C dL_law_1764 ?_
    refine zz_lcmp (pc := 1765) C dL_law_1765 ?_
    refine zz_if_eq (pc := 1766) C (tgt := 1771) dL_law_1766 (by decide) (fun _ => ?_) (fun h => absurd (zCmp_i hw9 (Classical.not_not.mp hcz)) h)
    refine zV.less (L' := lL b x y o (nI j)) ⟨rfl, rfl, rfl, rfl, rfl, trivial⟩ ?_
    refine zz_goto (pc := 1771) C (tgt := 1886) dL_law_1771 (by decide) ?_
    exact zV.widen (zLe3 (Nat.le_trans (Nat.le_of_ble_eq_true (n := 1) (m := 8) rfl) (Nat.le_add_right 8 _)) rfl rfl) (zLe3 (Nat.le_trans (Nat.le_of_ble_eq_true (n := 6) (m := 48) rfl) (Nat.le_add_right 48 _)) rfl rfl) (kk _ _ (if zE1 (¬ zHere σ a1) = 0 then m0 else m0) (zInv_of (zIfW (fun _ => hW) hW) hC9 ho9 hM10) (Nat.le_of_eq (ite_self _).symm))
set_option maxHeartbeats 4000000 in
set_option maxRecDepth 100000 in
theorem lw_c28 {p : Program} {l : Launch} {e : Env} {s : State} {m : MethodId} {below : List Frame} {meth : Method} {c : Code} {D : va_G} {b Ln : Nat} {xs : Nat → Int32} {Q : State → Prop} (hl : l.stackTraces = false) (K : zLw p s m meth c D b Ln xs) {G : zG} {x y o j m0 cells slots : Nat} {σ : zS} (hI : zInv G x y o σ m0) (h1 : vp_in (nI j + 1) Ln) (h2 : vp_in (nI j + 2) Ln) (h3 : vp_in (nI j + 3) Ln) (hr1 : cells + (8 + (16384 - zK m0)) ≤ 601024) (hr2 : slots + (48 + 4 * (16384 - zK m0)) ≤ 7293033)
    (kk : ∀ (G' : zG) (σ' : zS) (m' : Nat), zInv G' x y o σ' m' → m0 ≤ m' → zV p l e room_1 s m #[Value.ref b] below meth c D (lA s) (cells + (8 + (zK m' - zK m0))) (slots + (48 + 4 * (zK m' - zK m0))) Q G' 1886 (lL b x y o (nI j)) []) : zV p l e room_1 s m #[Value.ref b] below meth c D (lA s) cells slots Q G 1774 (lL b x y o (nI j)) [] := by
  obtain ⟨C, hX, hbl, h8⟩ := K
  have hbA : ¬ lA s b := Nat.not_le.mpr hbl
  obtain ⟨hW, ⟨tb, ev, A, hC⟩, ⟨ma, th, hM⟩, w, ho⟩ := hI
  obtain ⟨a1, e1⟩ : ∃ z, xs (nI j + 1).toNatClampNeg = z := ⟨_, rfl⟩
  refine zz_aload_n (pc := 1774) C dL_law_1774 rfl ?_
  refine zz_aload_n (pc := 1775) C dL_law_1775 rfl ?_
  refine zz_iload (pc := 1776) C dL_law_1776 rfl ?_
  refine zz_iconst (pc := 1778) C (v := 1) (by decide) dL_law_1778 ?_
  refine zz_iadd (pc := 1779) C dL_law_1779 ?_
  refine zz_sld (pc := 1780) C hX hbl hbA h1 e1 dL_law_1780 ?_
  refine zz_aload_n (pc := 1781) C dL_law_1781 rfl ?_
  refine zzx_callSW (pc := 1782) C h8 (c_L_reportedChild l hl D (G := G) (x9 := a1) hC  ho) gL_law_L_reportedChild rfl 3 (by decide +kernel) ⟨Nat.le_of_ble_eq_true rfl, Nat.le_of_ble_eq_true rfl⟩ rfl dL_law_1782 rfl (Nat.le_of_ble_eq_true rfl) rfl ⟨zRmC (T := 0) hr1 (Nat.le_add_right 1 _) (Nat.le_of_ble_eq_true rfl), zRmS (T := 0) hr2 (Nat.le_add_right 6 _) (Nat.le_of_ble_eq_true rfl)⟩ (fun E hE => hE.elim) ?_
  rintro v G9 ⟨rfl, ⟨A9, hC9⟩, ⟨w9, ho9, hw9⟩, hk2⟩
  obtain ⟨r, hR, hag, hrth, hring⟩ := hM.mv hk2
  refine zz_istore (pc := 1785) C dL_law_1785 (Nat.le_of_ble_eq_true rfl) ?_
  refine zz_aload_n (pc := 1787) C dL_law_1787 rfl ?_
  refine zz_aload_n (pc := 1788) C dL_law_1788 rfl ?_
  refine zz_iload (pc := 1789) C dL_law_1789 rfl ?_
  refine zz_iconst (pc := 1791) C (v := 1) (by decide) dL_law_1791 ?_
  refine zz_iadd (pc := 1792) C dL_law_1792 ?_
  refine zz_sld (pc := 1793) C hX hbl hbA h1 e1 dL_law_1793 ?_
  have hq1 := zRmU (a := ({ frames := 8, cells := 1, slots := 6, locals := 133 } : Room).cells) hr1 (T := 0) (Nat.le_trans (Nat.le_of_ble_eq_true (n := 1) (m := 5) rfl) (Nat.le_add_right 5 _))
  have hq2 := zRmV (a := ({ frames := 8, cells := 1, slots := 6, locals := 133 } : Room).slots) hr2 (T := 0) (Nat.le_trans (Nat.le_of_ble_eq_true (n := 6) (m := 40) rfl) (Nat.le_add_right 40 _))
  refine zz_callV (pc := 1794) C (c_X3_reportedChild l D (σ := σ) (x := a1) hR hag hring ) gL_law_X3_reportedChild rfl 1 (by decide +kernel) ⟨Nat.le_of_ble_eq_true rfl, Nat.le_of_ble_eq_true rfl⟩ hR.2.1 (ci := 3) rfl rfl rfl dL_law_1794 rfl (Nat.le_of_ble_eq_true rfl) rfl ⟨hq1, hq2⟩ ?_
  rintro v G10 ⟨rfl, hM10⟩
  obtain ⟨r10, hR10, hag10, hth10, hring10⟩ := id hM10
  refine zz_istore (pc := 1797) C dL_law_1797 (Nat.le_of_ble_eq_true rfl) ?_
  refine zz_aload_n (pc := 1799) C dL_law_1799 rfl ?_
  refine zz_callV (pc := 1800) C (c_X3_thrown l D hR10) gL_law_X3_thrown rfl 0 (by decide +kernel) ⟨Nat.le_of_ble_eq_true rfl, Nat.le_of_ble_eq_true rfl⟩ hR10.2.1 (ci := 3) rfl rfl rfl dL_law_1800 rfl (Nat.le_of_ble_eq_true rfl) rfl ⟨zRoom0 hq1, zRoom0 hq2⟩ ?_
  rintro v G11 ⟨rfl, rfl⟩
  rw [hth10]
  refine zz_iload (pc := 1803) C dL_law_1803 rfl ?_
  refine zz_icmp_eq (pc := 1805) C (tgt := 1810) dL_law_1805 (by decide) (fun _ => ?_) (fun h => absurd rfl h)
  refine zz_iload (pc := 1810) C dL_law_1810 rfl ?_
  refine zz_if_ne (pc := 1812) C (tgt := 1827) dL_law_1812 (by decide) (fun _ => ?_) (fun hcz => ?_)
  · refine zV.less (L' := lL b x y o (nI j)) ⟨rfl, rfl, rfl, rfl, rfl, trivial⟩ ?_
    refine zz_goto (pc := 1827) C (tgt := 1886) dL_law_1827 (by decide) ?_
    exact zV.widen (zLe3 (Nat.le_trans (Nat.le_of_ble_eq_true (n := 1) (m := 8) rfl) (Nat.le_add_right 8 _)) rfl rfl) (zLe3 (Nat.le_trans (Nat.le_of_ble_eq_true (n := 6) (m := 48) rfl) (Nat.le_add_right 48 _)) rfl rfl) (kk _ _ (if zE1 (¬ zHere σ a1) = 0 then m0 else m0) (zInv_of (zIfW (fun _ => hW) hW) hC9 ho9 hM10) (Nat.le_of_eq (ite_self _).symm))
  · skip
    refine zz_aload_n (pc := 1815) C dL_law_1815 rfl ?_
    refine zz_iconst (pc := 1816) C (v := 0) (by decide) dL_law_1816 ?_
    refine zz_lald (pc := 1817) C dL_law_1817 (n := 1) (hM10.fr o 3 _ ho9 (by decide)) (by unfold vp_in; decide) ?_
    refine zz_iload (pc := 1818) C dL_law_1818 rfl ?_
    refine zz_i2l (pc := 1820) C dL_law_1820 ?_
    refine zz_lcmp (pc := 1821) C dL_law_1821 ?_
    refine zz_if_eq (pc := 1822) C (tgt := 1827) dL_law_1822 (by decide) (fun _ => ?_) (fun h => absurd (zCmp_i hw9 (Classical.not_not.mp hcz)) h)
    refine zV.less (L' := lL b x y o (nI j)) ⟨rfl, rfl, rfl, rfl, rfl, trivial⟩ ?_
    refine zz_goto (pc := 1827) C (tgt := 1886) dL_law_1827 (by decide) ?_
    exact zV.widen (zLe3 (Nat.le_trans (Nat.le_of_ble_eq_true (n := 1) (m := 8) rfl) (Nat.le_add_right 8 _)) rfl rfl) (zLe3 (Nat.le_trans (Nat.le_of_ble_eq_true (n := 6) (m := 48) rfl) (Nat.le_add_right 48 _)) rfl rfl) (kk _ _ (if zE1 (¬ zHere σ a1) = 0 then m0 else m0) (zInv_of (zIfW (fun _ => hW) hW) hC9 ho9 hM10) (Nat.le_of_eq (ite_self _).symm))
set_option maxHeartbeats 4000000 in
set_option maxRecDepth 100000 in
theorem lw_c29 {p : Program} {l : Launch} {e : Env} {s : State} {m : MethodId} {below : List Frame} {meth : Method} {c : Code} {D : va_G} {b Ln : Nat} {xs : Nat → Int32} {Q : State → Prop} (hl : l.stackTraces = false) (K : zLw p s m meth c D b Ln xs) {G : zG} {x y o j m0 cells slots : Nat} {σ : zS} (hI : zInv G x y o σ m0) (h1 : vp_in (nI j + 1) Ln) (h2 : vp_in (nI j + 2) Ln) (h3 : vp_in (nI j + 3) Ln) (hr1 : cells + (8 + (16384 - zK m0)) ≤ 601024) (hr2 : slots + (48 + 4 * (16384 - zK m0)) ≤ 7293033)
    (kk : ∀ (G' : zG) (σ' : zS) (m' : Nat), zInv G' x y o σ' m' → m0 ≤ m' → zV p l e room_1 s m #[Value.ref b] below meth c D (lA s) (cells + (8 + (zK m' - zK m0))) (slots + (48 + 4 * (zK m' - zK m0))) Q G' 1886 (lL b x y o (nI j)) []) : zV p l e room_1 s m #[Value.ref b] below meth c D (lA s) cells slots Q G 1830 (lL b x y o (nI j)) [] := by
  obtain ⟨C, hX, hbl, h8⟩ := K
  have hbA : ¬ lA s b := Nat.not_le.mpr hbl
  obtain ⟨hW, ⟨tb, ev, A, hC⟩, ⟨ma, th, hM⟩, w, ho⟩ := hI
  obtain ⟨a1, e1⟩ : ∃ z, xs (nI j + 1).toNatClampNeg = z := ⟨_, rfl⟩
  refine zz_aload_n (pc := 1830) C dL_law_1830 rfl ?_
  refine zz_aload_n (pc := 1831) C dL_law_1831 rfl ?_
  refine zz_iload (pc := 1832) C dL_law_1832 rfl ?_
  refine zz_iconst (pc := 1834) C (v := 1) (by decide) dL_law_1834 ?_
  refine zz_iadd (pc := 1835) C dL_law_1835 ?_
  refine zz_sld (pc := 1836) C hX hbl hbA h1 e1 dL_law_1836 ?_
  refine zz_aload_n (pc := 1837) C dL_law_1837 rfl ?_
  refine zzx_callSW (pc := 1838) C h8 (c_L_reportedValue l hl D (G := G) (x9 := a1) hC  ho) gL_law_L_reportedValue rfl 3 (by decide +kernel) ⟨Nat.le_of_ble_eq_true rfl, Nat.le_of_ble_eq_true rfl⟩ rfl dL_law_1838 rfl (Nat.le_of_ble_eq_true rfl) rfl ⟨zRmC (T := 0) hr1 (Nat.le_add_right 1 _) (Nat.le_of_ble_eq_true rfl), zRmS (T := 0) hr2 (Nat.le_add_right 6 _) (Nat.le_of_ble_eq_true rfl)⟩ (fun E hE => hE.elim) ?_
  rintro v G9 ⟨rfl, ⟨A9, hC9⟩, ⟨w9, ho9, hw9⟩, hk2⟩
  obtain ⟨r, hR, hag, hrth, hring⟩ := hM.mv hk2
  refine zz_istore (pc := 1841) C dL_law_1841 (Nat.le_of_ble_eq_true rfl) ?_
  refine zz_aload_n (pc := 1843) C dL_law_1843 rfl ?_
  refine zz_aload_n (pc := 1844) C dL_law_1844 rfl ?_
  refine zz_iload (pc := 1845) C dL_law_1845 rfl ?_
  refine zz_iconst (pc := 1847) C (v := 1) (by decide) dL_law_1847 ?_
  refine zz_iadd (pc := 1848) C dL_law_1848 ?_
  refine zz_sld (pc := 1849) C hX hbl hbA h1 e1 dL_law_1849 ?_
  have hq1 := zRmU (a := ({ frames := 8, cells := 1, slots := 6, locals := 133 } : Room).cells) hr1 (T := 0) (Nat.le_trans (Nat.le_of_ble_eq_true (n := 1) (m := 5) rfl) (Nat.le_add_right 5 _))
  have hq2 := zRmV (a := ({ frames := 8, cells := 1, slots := 6, locals := 133 } : Room).slots) hr2 (T := 0) (Nat.le_trans (Nat.le_of_ble_eq_true (n := 6) (m := 40) rfl) (Nat.le_add_right 40 _))
  refine zz_callV (pc := 1850) C (c_X3_reportedValue l D (σ := σ) (x := a1) hR hag hring ) gL_law_X3_reportedValue rfl 1 (by decide +kernel) ⟨Nat.le_of_ble_eq_true rfl, Nat.le_of_ble_eq_true rfl⟩ hR.2.1 (ci := 3) rfl rfl rfl dL_law_1850 rfl (Nat.le_of_ble_eq_true rfl) rfl ⟨hq1, hq2⟩ ?_
  rintro v G10 ⟨rfl, hM10⟩
  obtain ⟨r10, hR10, hag10, hth10, hring10⟩ := id hM10
  refine zz_istore (pc := 1853) C dL_law_1853 (Nat.le_of_ble_eq_true rfl) ?_
  refine zz_aload_n (pc := 1855) C dL_law_1855 rfl ?_
  refine zz_callV (pc := 1856) C (c_X3_thrown l D hR10) gL_law_X3_thrown rfl 0 (by decide +kernel) ⟨Nat.le_of_ble_eq_true rfl, Nat.le_of_ble_eq_true rfl⟩ hR10.2.1 (ci := 3) rfl rfl rfl dL_law_1856 rfl (Nat.le_of_ble_eq_true rfl) rfl ⟨zRoom0 hq1, zRoom0 hq2⟩ ?_
  rintro v G11 ⟨rfl, rfl⟩
  rw [hth10]
  refine zz_iload (pc := 1859) C dL_law_1859 rfl ?_
  refine zz_icmp_eq (pc := 1861) C (tgt := 1866) dL_law_1861 (by decide) (fun _ => ?_) (fun h => absurd rfl h)
  refine zz_iload (pc := 1866) C dL_law_1866 rfl ?_
  refine zz_if_ne (pc := 1868) C (tgt := 1883) dL_law_1868 (by decide) (fun _ => ?_) (fun hcz => ?_)
  · refine zV.less (L' := lL b x y o (nI j)) ⟨rfl, rfl, rfl, rfl, rfl, trivial⟩ ?_
    refine zz_goto (pc := 1883) C (tgt := 1886) dL_law_1883 (by decide) ?_
    exact zV.widen (zLe3 (Nat.le_trans (Nat.le_of_ble_eq_true (n := 1) (m := 8) rfl) (Nat.le_add_right 8 _)) rfl rfl) (zLe3 (Nat.le_trans (Nat.le_of_ble_eq_true (n := 6) (m := 48) rfl) (Nat.le_add_right 48 _)) rfl rfl) (kk _ _ (if zE1 (¬ zHere σ a1) = 0 then m0 else m0) (zInv_of (zIfW (fun _ => hW) hW) hC9 ho9 hM10) (Nat.le_of_eq (ite_self _).symm))
  · skip
    refine zz_aload_n (pc := 1871) C dL_law_1871 rfl ?_
    refine zz_iconst (pc := 1872) C (v := 0) (by decide) dL_law_1872 ?_
    refine zz_lald (pc := 1873) C dL_law_1873 (n := 1) (hM10.fr o 3 _ ho9 (by decide)) (by unfold vp_in; decide) ?_
    refine zz_iload (pc := 1874) C dL_law_1874 rfl ?_
    refine zz_i2l (pc := 1876) C dL_law_1876 ?_
    refine zz_lcmp (pc := 1877) C dL_law_1877 ?_
    refine zz_if_eq (pc := 1878) C (tgt := 1883) dL_law_1878 (by decide) (fun _ => ?_) (fun h => absurd (zCmp_i hw9 (Classical.not_not.mp hcz)) h)
    refine zV.less (L' := lL b x y o (nI j)) ⟨rfl, rfl, rfl, rfl, rfl, trivial⟩ ?_
    refine zz_goto (pc := 1883) C (tgt := 1886) dL_law_1883 (by decide) ?_
    exact zV.widen (zLe3 (Nat.le_trans (Nat.le_of_ble_eq_true (n := 1) (m := 8) rfl) (Nat.le_add_right 8 _)) rfl rfl) (zLe3 (Nat.le_trans (Nat.le_of_ble_eq_true (n := 6) (m := 48) rfl) (Nat.le_add_right 48 _)) rfl rfl) (kk _ _ (if zE1 (¬ zHere σ a1) = 0 then m0 else m0) (zInv_of (zIfW (fun _ => hW) hW) hC9 ho9 hM10) (Nat.le_of_eq (ite_self _).symm))
