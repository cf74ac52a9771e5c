theorem fl_X2_handOverChildren_11 : Cond.fieldLink RX2 11 "Signalpost" "table" "[LSignalpost$Proc;" ∈ wsX2_handOverChildren := by decide +kernel
theorem fl_X2_handOverChildren_147 : Cond.fieldLink RX2 147 "Signalpost$Proc" "parent" "LSignalpost$Proc;" ∈ wsX2_handOverChildren := by decide +kernel
theorem fl_X2_handOverChildren_194 : Cond.fieldLink RX2 194 "Signalpost$Proc" "zombie" "Z" ∈ wsX2_handOverChildren := by decide +kernel
theorem fl_X2_handOverChildren_151 : Cond.fieldLink RX2 151 "Signalpost$Proc" "pid" "I" ∈ wsX2_handOverChildren := by decide +kernel
theorem in_X2_handOverChildren_X1 : ∀ w ∈ u_ws RX1 TX1 20, w ∈ wsX2_handOverChildren := by decide +kernel
theorem in_X2_handOverChildren_X2 : ∀ w ∈ u_ws RX2 TX2 4, w ∈ wsX2_handOverChildren := by decide +kernel
set_option maxHeartbeats 4000000 in
set_option maxRecDepth 100000 in
theorem c_X2_handOverChildren (l : Launch) (D : va_G) {B G : zG} {x tb ev : Nat} {A : Nat → Nat} {σ : zS} {q : List zEv} {h m0 : Nat} {p9 j hh : Nat} (hC : zCl B x tb ev A σ q h m0 G) (hH : zHas σ) (h10 : σ 0 1 ≠ 0) (h14 : σ 4 1 = 0) (h13 : σ 13 1 = 0) (hp : p9 < 41) (hp0 : σ 0 p9 ≠ 0) (hp1 : p9 ≠ 1) (hj : σ 1 p9 = nI j) (ha : zAnc 39 σ j) (hhh : zHeir 40 σ j = hh) : zMet D l yX2_handOverChildren wsX2_handOverChildren ({ frames := 2, cells := 0, slots := 0, locals := 44 } : Room) [.ref x, .ref (A p9)] G (fun v G9 => ∃ w, v = some (.long w) ∧ zZmS σ p9 w 41 ∧ zCl B x tb ev A (zHandN σ p9 hh (41)) q h m0 G9) := by
  have hhe := zHeir_in ha
  have hhe0 : σ 0 (zHeir 40 σ j) ≠ 0 := (zHeir_live h10 h14 ha).1
  have hHe := c_X2_heirOf l D hC h10 h13 hp hp0 hp1 hj ha
  rw [hhh] at hhe hhe0 hHe
  refine zMet_of (cc := cX2_handOverChildren) (maxL := 9) (ret := (some .long)) (by decide) rfl (Nat.le_of_ble_eq_true rfl) ?_
  intro p e s m args below meth c C hmn
  have loop : ∀ (n i : Nat) (w9 : Int64) (G1 : zG), i + n = 41 → zZmS σ p9 w9 i → zCl B x tb ev A (zHandN σ p9 hh (i)) q h m0 G1 → zV p l e ({ frames := 2, cells := 0, slots := 0, locals := 44 } : Room) s m args below meth c D (zA G s.heap.size) 0 0 (zZ below D G (fun v G9 => ∃ w, v = some (.long w) ∧ zZmS σ p9 w 41 ∧ zCl B x tb ev A (zHandN σ p9 hh (41)) q h m0 G9) args s ({ frames := 2, cells := 0, slots := 0, locals := 44 } : Room)) G1 22 [some (.ref x), some (.ref (A p9)), some (.ref (A hh)), some (.long w9), none, some (.ref tb), some (.int (nI 41)), some (.int (nI (i))), none] [] := by
    intro n
    induction n with
    | zero =>
      intro i w9 G1 hi hinv hC
      have hi41 : i = 41 := by omega
      subst hi41
      refine zz_iload (pc := 22) C dX2_handOverChildren_22 rfl ?_
      refine zz_iload (pc := 24) C dX2_handOverChildren_24 rfl ?_
      refine zz_icmp_ge (pc := 26) C (tgt := 84) dX2_handOverChildren_26 (by decide) (fun hc26 => ?_) (fun hc26 => ?_)
      · refine zz_lload_n (pc := 84) C dX2_handOverChildren_84 rfl ?_
        exact zz_lreturn (pc := 85) C dX2_handOverChildren_85 (Nat.le_refl _) (Nat.le_refl _) ⟨w9, rfl, hinv, hC⟩
      · exact absurd z4141 hc26
    | succ n ih =>
      intro i w9 G1 hi hinv hC
      by_cases hi1 : i = 1
      · have hnk : ¬ σ 1 i = nI p9 := fun z => by rw [hi1, hH.2.2.2] at z; exact znm1 hp z.symm
        refine zz_iload (pc := 22) C dX2_handOverChildren_22 rfl ?_
        refine zz_iload (pc := 24) C dX2_handOverChildren_24 rfl ?_
        refine zz_icmp_ge (pc := 26) C (tgt := 84) dX2_handOverChildren_26 (by decide) (fun hc26 => ?_) (fun hc26 => ?_)
        · exact absurd hc26 (z41i (by omega))
        · refine zz_aload (pc := 29) C dX2_handOverChildren_29 rfl ?_
          refine zz_iload (pc := 31) C dX2_handOverChildren_31 rfl ?_
          refine zz_tldC (pc := 33) C hC dX2_handOverChildren_33 (k := i) (by omega) rfl (fun hno => ?_) (fun hth => ?_)
          · rw [zHandN_off (by decide)] at hno
            refine zz_astoreN (pc := 34) C dX2_handOverChildren_34 (Nat.le_of_ble_eq_true rfl) ?_
            refine zz_aloadN (pc := 36) C dX2_handOverChildren_36 rfl ?_
            refine zz_ifnullN (pc := 38) C (tgt := 78) dX2_handOverChildren_38 (by decide) ?_
            refine zz_iinc (pc := 78) C dX2_handOverChildren_78 rfl ?_
            refine zz_goto (pc := 81) C (tgt := 22) dX2_handOverChildren_81 (by decide) ?_
            exact zV.less (L' := [some (.ref x), some (.ref (A p9)), some (.ref (A hh)), some (.long w9), none, some (.ref tb), some (.int (nI 41)), some (.int (nI (i + 1))), none]) ⟨rfl, rfl, rfl, rfl, rfl, rfl, zvi (z1i i), trivial⟩ (ih (i + 1) _ _ (by omega) (zZmS_no hinv (fun z => z.1 hno)) (by rw [zHandN_same (fun z => z.1 hno)]; exact hC))
          · have hthN := hth
            rw [zHandN_off (by decide)] at hth
            obtain ⟨g, hGk, hPk, _⟩ := hC.at (k := i) (by omega) hthN
            have he1 : (zHandN σ p9 hh (i)) 1 i = σ 1 i := by show (if _ then _ else _) = _; rw [if_neg (by omega)]
            have h44 : g 5 = σ 4 i := hPk.2.2.2.2.1.trans (by rw [zHandN_off (by decide)])
            rw [hi1, zPar_1] at hGk
            refine zz_astore (pc := 34) C dX2_handOverChildren_34 (Nat.le_of_ble_eq_true rfl) ?_
            refine zz_aload (pc := 36) C dX2_handOverChildren_36 rfl ?_
            refine zz_ifnull (pc := 38) C dX2_handOverChildren_38 ?_
            refine zz_aload (pc := 41) C dX2_handOverChildren_41 rfl ?_
            refine zz_get (pc := 43) C in_X2_handOverChildren_X1 (ci := 1) rfl 1 (by decide) (fl_X2_handOverChildren_147) rfl dX2_handOverChildren_43 (by rw [hi1]; exact hGk) rfl ?_
            refine zz_aload_n (pc := 46) C dX2_handOverChildren_46 rfl ?_
            refine zz_acmpN_ne (pc := 47) C (tgt := 78) dX2_handOverChildren_47 (by decide) ?_
            refine zz_iinc (pc := 78) C dX2_handOverChildren_78 rfl ?_
            refine zz_goto (pc := 81) C (tgt := 22) dX2_handOverChildren_81 (by decide) ?_
            exact zV.less (L' := [some (.ref x), some (.ref (A p9)), some (.ref (A hh)), some (.long w9), none, some (.ref tb), some (.int (nI 41)), some (.int (nI (i + 1))), none]) ⟨rfl, rfl, rfl, rfl, rfl, rfl, zvi (z1i i), trivial⟩ (ih (i + 1) _ _ (by omega) (zZmS_no hinv (fun z => hnk z.2.1)) (by rw [zHandN_same (fun z => hnk z.2)]; exact hC))
      · skip
        refine zz_iload (pc := 22) C dX2_handOverChildren_22 rfl ?_
        refine zz_iload (pc := 24) C dX2_handOverChildren_24 rfl ?_
        refine zz_icmp_ge (pc := 26) C (tgt := 84) dX2_handOverChildren_26 (by decide) (fun hc26 => ?_) (fun hc26 => ?_)
        · exact absurd hc26 (z41i (by omega))
        · refine zz_aload (pc := 29) C dX2_handOverChildren_29 rfl ?_
          refine zz_iload (pc := 31) C dX2_handOverChildren_31 rfl ?_
          refine zz_tldC (pc := 33) C hC dX2_handOverChildren_33 (k := i) (by omega) rfl (fun hno => ?_) (fun hth => ?_)
          · rw [zHandN_off (by decide)] at hno
            refine zz_astoreN (pc := 34) C dX2_handOverChildren_34 (Nat.le_of_ble_eq_true rfl) ?_
            refine zz_aloadN (pc := 36) C dX2_handOverChildren_36 rfl ?_
            refine zz_ifnullN (pc := 38) C (tgt := 78) dX2_handOverChildren_38 (by decide) ?_
            refine zz_iinc (pc := 78) C dX2_handOverChildren_78 rfl ?_
            refine zz_goto (pc := 81) C (tgt := 22) dX2_handOverChildren_81 (by decide) ?_
            exact zV.less (L' := [some (.ref x), some (.ref (A p9)), some (.ref (A hh)), some (.long w9), none, some (.ref tb), some (.int (nI 41)), some (.int (nI (i + 1))), none]) ⟨rfl, rfl, rfl, rfl, rfl, rfl, zvi (z1i i), trivial⟩ (ih (i + 1) _ _ (by omega) (zZmS_no hinv (fun z => z.1 hno)) (by rw [zHandN_same (fun z => z.1 hno)]; exact hC))
          · have hthN := hth
            rw [zHandN_off (by decide)] at hth
            obtain ⟨g, hGk, hPk, _⟩ := hC.at (k := i) (by omega) hthN
            have he1 : (zHandN σ p9 hh (i)) 1 i = σ 1 i := by show (if _ then _ else _) = _; rw [if_neg (by omega)]
            have h44 : g 5 = σ 4 i := hPk.2.2.2.2.1.trans (by rw [zHandN_off (by decide)])
            obtain ⟨j3, hj3, hj4, hj5, hj6⟩ := hH.2.1 i (by omega) hth hi1
            rw [zPar_n hi1 (he1.trans hj3) hj5 (zTA_y (by rw [zHandN_off (by decide)]; exact hj6))] at hGk
            have hjA : A j3 = A p9 ↔ j3 = p9 := ⟨hC.inj hj5 hp (by rw [zHandN_off (by decide)]; exact hj6) (by rw [zHandN_off (by decide)]; exact hp0), fun z => by rw [z]⟩
            refine zz_astore (pc := 34) C dX2_handOverChildren_34 (Nat.le_of_ble_eq_true rfl) ?_
            refine zz_aload (pc := 36) C dX2_handOverChildren_36 rfl ?_
            refine zz_ifnull (pc := 38) C dX2_handOverChildren_38 ?_
            refine zz_aload (pc := 41) C dX2_handOverChildren_41 rfl ?_
            refine zz_get (pc := 43) C in_X2_handOverChildren_X1 (ci := 1) rfl 1 (by decide) (fl_X2_handOverChildren_147) rfl dX2_handOverChildren_43 hGk rfl ?_
            refine zz_aload_n (pc := 46) C dX2_handOverChildren_46 rfl ?_
            refine zz_acmp_ne (pc := 47) C (tgt := 78) dX2_handOverChildren_47 (by decide) (fun hc47 => ?_) (fun hc47 => ?_)
            · refine zz_iinc (pc := 78) C dX2_handOverChildren_78 rfl ?_
              refine zz_goto (pc := 81) C (tgt := 22) dX2_handOverChildren_81 (by decide) ?_
              exact zV.less (L' := [some (.ref x), some (.ref (A p9)), some (.ref (A hh)), some (.long w9), none, some (.ref tb), some (.int (nI 41)), some (.int (nI (i + 1))), none]) ⟨rfl, rfl, rfl, rfl, rfl, rfl, zvi (z1i i), trivial⟩ (ih (i + 1) _ _ (by omega) (zZmS_no hinv (fun z => hc47 (hjA.mpr ((nI_eq (by omega) (by omega)).mp (hj3.symm.trans z.2.1))))) (by rw [zHandN_same (fun z => hc47 (hjA.mpr ((nI_eq (by omega) (by omega)).mp (hj3.symm.trans z.2))))]; exact hC))
            · refine zz_aload (pc := 50) C dX2_handOverChildren_50 rfl ?_
              refine zz_aload_n (pc := 52) C dX2_handOverChildren_52 rfl ?_
              refine zV.eqG (zU_id hGk).symm ?_
              refine zz_pputR (pc := 53) C in_X2_handOverChildren_X1 fl_X2_handOverChildren_147 dX2_handOverChildren_53 ?_
              have hjp : σ 1 i = nI p9 := by rw [hj3, hjA.mp (Classical.not_not.mp hc47)]
              have hC3 := hC.par (hh := hh) (by omega) hthN hi1 hhe.2 (by rw [zHandN_off (by decide)]; exact hhe0) hPk
              rw [← zHandN_succ (⟨hth, hjp⟩ : σ 0 i ≠ 0 ∧ σ 1 i = nI p9)] at hC3
              refine zz_lload_n (pc := 56) C dX2_handOverChildren_56 rfl ?_
              refine zz_aload (pc := 57) C dX2_handOverChildren_57 rfl ?_
              refine zz_get (pc := 59) C in_X2_handOverChildren_X1 (ci := 1) rfl 5 (by decide) (fl_X2_handOverChildren_194) rfl dX2_handOverChildren_59 zU_self rfl ?_
              refine zz_if_eq (pc := 62) C (tgt := 75) dX2_handOverChildren_62 (by decide) (fun hc62 => ?_) (fun hc62 => ?_)
              · refine zz_lconst (pc := 75) C (v := 0) rfl dX2_handOverChildren_75 ?_
                refine zz_lor (pc := 76) C dX2_handOverChildren_76 ?_
                refine zz_lstore_n (pc := 77) C dX2_handOverChildren_77 (Nat.le_of_ble_eq_true rfl) ?_
                refine zz_iinc (pc := 78) C dX2_handOverChildren_78 rfl ?_
                refine zz_goto (pc := 81) C (tgt := 22) dX2_handOverChildren_81 (by decide) ?_
                exact zV.less (L' := [some (.ref x), some (.ref (A p9)), some (.ref (A hh)), some (.long w9), none, some (.ref tb), some (.int (nI 41)), some (.int (nI (i + 1))), none]) ⟨rfl, rfl, rfl, (by rw [zlor0]), rfl, rfl, zvi (z1i i), trivial⟩ (ih (i + 1) _ _ (by omega) (zZmS_no hinv (fun z => z.2.2 (h44.symm.trans hc62))) (hC3))
              · refine zz_lconst (pc := 65) C (v := 1) rfl dX2_handOverChildren_65 ?_
                refine zz_aload (pc := 66) C dX2_handOverChildren_66 rfl ?_
                refine zz_get (pc := 68) C in_X2_handOverChildren_X1 (ci := 1) rfl 0 (by decide) (fl_X2_handOverChildren_151) rfl dX2_handOverChildren_68 zU_self rfl ?_
                refine zz_lshl (pc := 71) C dX2_handOverChildren_71 ?_
                refine zz_goto (pc := 72) C (tgt := 76) dX2_handOverChildren_72 (by decide) ?_
                refine zz_lor (pc := 76) C dX2_handOverChildren_76 ?_
                refine zz_lstore_n (pc := 77) C dX2_handOverChildren_77 (Nat.le_of_ble_eq_true rfl) ?_
                refine zz_iinc (pc := 78) C dX2_handOverChildren_78 rfl ?_
                refine zz_goto (pc := 81) C (tgt := 22) dX2_handOverChildren_81 (by decide) ?_
                exact zV.less (L' := [some (.ref x), some (.ref (A p9)), some (.ref (A hh)), some (.long (w9 ||| ((1 : Int64) <<< ((g 0).toInt64 &&& 63)))), none, some (.ref tb), some (.int (nI 41)), some (.int (nI (i + 1))), none]) ⟨rfl, rfl, rfl, rfl, rfl, rfl, zvi (z1i i), trivial⟩ (ih (i + 1) _ _ (by omega) (zZmS_yes hinv ⟨hth, hjp, fun z => hc62 (h44.trans z)⟩ hPk.1 (by omega)) (hC3))
  refine zz_aload_n (pc := 0) C dX2_handOverChildren_0 rfl ?_
  refine zz_aload_n (pc := 1) C dX2_handOverChildren_1 rfl ?_
  refine zz_callV (pc := 2) C hHe gX2_handOverChildren_X2_heirOf rfl 1 (by decide +kernel) ⟨Nat.le_of_ble_eq_true rfl, Nat.le_of_ble_eq_true rfl⟩ hC.x (ci := 2) rfl rfl rfl dX2_handOverChildren_2 rfl (Nat.le_of_ble_eq_true rfl) rfl ⟨Nat.le_of_ble_eq_true rfl, Nat.le_of_ble_eq_true rfl⟩ ?_
  rintro v G9 ⟨rfl, rfl⟩
  refine zz_astore_n (pc := 5) C dX2_handOverChildren_5 (Nat.le_of_ble_eq_true rfl) ?_
  refine zz_lconst (pc := 6) C (v := 0) rfl dX2_handOverChildren_6 ?_
  refine zz_lstore_n (pc := 7) C dX2_handOverChildren_7 (Nat.le_of_ble_eq_true rfl) ?_
  refine zz_aload_n (pc := 8) C dX2_handOverChildren_8 rfl ?_
  refine zz_get (pc := 9) C in_X2_handOverChildren_X2 (ci := 2) rfl 0 (by decide) (fl_X2_handOverChildren_11) rfl dX2_handOverChildren_9 hC.x rfl ?_
  refine zz_astore (pc := 12) C dX2_handOverChildren_12 (Nat.le_of_ble_eq_true rfl) ?_
  refine zz_aload (pc := 14) C dX2_handOverChildren_14 rfl ?_
  refine zz_tlnC (pc := 16) C hC dX2_handOverChildren_16 ?_
  refine zz_istore (pc := 17) C dX2_handOverChildren_17 (Nat.le_of_ble_eq_true rfl) ?_
  refine zz_iconst (pc := 19) C (v := 0) (by decide) dX2_handOverChildren_19 ?_
  refine zz_istore (pc := 20) C dX2_handOverChildren_20 (Nat.le_of_ble_eq_true rfl) ?_
  exact zV.less (L' := [some (.ref x), some (.ref (A p9)), some (.ref (A hh)), some (.long 0), none, some (.ref tb), some (.int (nI 41)), some (.int (nI (0))), none]) ⟨rfl, rfl, rfl, rfl, rfl, rfl, rfl, trivial⟩ (loop 41 0 0 _ rfl zZmS_0 (by rw [zHandN_0]; exact hC))
