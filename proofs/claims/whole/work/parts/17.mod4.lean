theorem c_mterm (l : Launch) (D : va_G) {B G : zG} {y : Nat} {ma : Nat → Nat} {r σ : zS} {q : List zEv} {p9 : Nat} {how w : Int32} (hR : zModR B y ma r G) (hag : zAg r σ) (hL : zLv σ p9) (hring : zRing r q) (hroom : q.length + 300 < 8192) : zMet D l yX3_terminates wsX3_terminates ({ frames := 2, cells := 0, slots := 0, locals := 47 } : Room) [.ref y, .int (nI p9), .int how, .int w] G (fun v G9 => v = none ∧ ∃ r2, zModR B y ma r2 G9 ∧ zAg r2 (zTerm (σ, q) p9 how w).1 ∧ r2 23 = r 23 ∧ zRing r2 (zTerm (σ, q) p9 how w).2) := by
  have hL2 : zLv r p9 := hL.ag (hag 0 (by decide)) (hag 1 (by decide)) (hag 2 (by decide))
  obtain ⟨a1, a2, a3, j, a4, a5, a6⟩ := hL2
  refine (c_X3_terminates l D hR (q := q) (how := how) (w := w) a1 a2 a3 a4 a5 a6 hring hroom).imp ?_
  rintro v G9 ⟨rfl, r2, b1, b2, b3, b4⟩
  exact ⟨rfl, r2, b1, b2.tr (zT3_ag hag), b3, by unfold zTerm; rw [← zTq_ag hag]; exact b4⟩
theorem c_mcheck (l : Launch) (D : va_G) {B G : zG} {y : Nat} {ma : Nat → Nat} {r σ : zS} {q : List zEv} {p9 : Nat} (hR : zModR B y ma r G) (hag : zAg r σ) (h00 : σ 0 0 = 0) (hp : p9 < 41) (hring : zRing r q) : zMet D l yX3_checks wsX3_checks ({ frames := 1, cells := 0, slots := 0, locals := 24 } : Room) [.ref y, .int (nI p9)] G (fun v G9 => v = none ∧ ∃ r2, zModR B y ma r2 G9 ∧ zAg r2 ((zCheck σ p9, q)).1 ∧ r2 23 = r 23 ∧ zRing r2 ((zCheck σ p9, q)).2) := by
  refine (c_X3_checks l D hR (by rw [hag 0 (by decide)]; exact h00) hp).imp ?_
  rintro v G9 ⟨rfl, b1⟩
  exact ⟨rfl, _, b1, zCheck_ag hag, zCheck_off (by decide), hring.ag (zCheck_off (by decide)) (zCheck_off (by decide)) (zCheck_off (by decide))⟩
theorem c_mstop (l : Launch) (D : va_G) {B G : zG} {y : Nat} {ma : Nat → Nat} {r σ : zS} {q : List zEv} {p9 sg : Nat} (hR : zModR B y ma r G) (hag : zAg r σ) (hp : p9 < 41) (hring : zRing r q) (hroom : q.length + 1 < 8192) : zMet D l yX3_stops wsX3_stops ({ frames := 1, cells := 0, slots := 0, locals := 23 } : Room) [.ref y, .int (nI p9), .int (nI sg)] G (fun v G9 => v = none ∧ ∃ r2, zModR B y ma r2 G9 ∧ zAg r2 (zStop (σ, q) p9 sg).1 ∧ r2 23 = r 23 ∧ zRing r2 (zStop (σ, q) p9 sg).2) := by
  refine (c_X3_stops l D hR (q := q) (sg := sg) hp hring hroom).imp ?_
  rintro v G9 ⟨rfl, r2, b1, b2, b3, b4⟩
  exact ⟨rfl, r2, b1, b2.tr (zAg_zu (zAg_zu (zAg_zu hag))), b3, b4⟩
theorem zAct_ag {r σ : zS} (h : zAg r σ) {p s : Nat} : zAct r p s = zAct σ p s := by unfold zAct; rw [h 9 (by decide)]
theorem fl_X3_takesEffect_38 : Cond.fieldLink RX3 38 "SignalpostModel" "action" "[I" ∈ wsX3_takesEffect := by decide +kernel
theorem fl_X3_takesEffect_47 : Cond.fieldLink RX3 47 "SignalpostModel" "caught" "[I" ∈ wsX3_takesEffect := by decide +kernel
theorem fl_X3_takesEffect_29 : Cond.fieldLink RX3 29 "SignalpostModel" "isWaiting" "[Z" ∈ wsX3_takesEffect := by decide +kernel
theorem fl_X3_takesEffect_17 : Cond.fieldLink RX3 17 "SignalpostModel" "group" "[I" ∈ wsX3_takesEffect := by decide +kernel
theorem in_X3_takesEffect_X3 : ∀ w ∈ u_ws RX3 TX3 29, w ∈ wsX3_takesEffect := by decide +kernel
set_option maxHeartbeats 4000000 in
set_option maxRecDepth 100000 in
theorem c_X3_takesEffect (l : Launch) (D : va_G) {B G : zG} {y : Nat} {ma : Nat → Nat} {r : zS} {σ : zS} {q : List zEv} {p9 sg : Nat} (hR : zModR B y ma r G) (hag : zAg r σ) (hL : zLv σ p9) (hs : sg < 9) (hring : zRing r q) (hroom : q.length + 300 < 8192) : zMet D l yX3_takesEffect wsX3_takesEffect ({ frames := 3, cells := 0, slots := 0, locals := 72 } : Room) [.ref y, .int (nI p9), .int (nI sg)] G (fun v G9 => v = none ∧ ∃ r2, zModR B y ma r2 G9 ∧ zAg r2 (zEff (σ, q) p9 sg).1 ∧ r2 23 = r 23 ∧ zRing r2 (zEff (σ, q) p9 sg).2) := by
  refine zMet_of (cc := cX3_takesEffect) (maxL := 4) (ret := none) (by decide) rfl (Nat.le_of_ble_eq_true rfl) ?_
  intro p e s m args below meth c C hmn
  have hp := hL.2.2.1
  have hA : r 9 (9 * p9 + sg) = zAct σ p9 sg := zAct_ag hag
  refine zz_aload_n (pc := 0) C dX3_takesEffect_0 rfl ?_
  refine zz_get (pc := 1) C in_X3_takesEffect_X3 (ci := 3) rfl 9 (by decide) (fl_X3_takesEffect_38) rfl dX3_takesEffect_1 hR.2.1 rfl ?_
  refine zz_bipush (pc := 4) C (v := 9) (by decide) dX3_takesEffect_4 ?_
  refine zz_iload_n (pc := 6) C dX3_takesEffect_6 rfl ?_
  refine zz_imul (pc := 7) C dX3_takesEffect_7 ?_
  refine zz_iload_n (pc := 8) C dX3_takesEffect_8 rfl ?_
  refine zz_iadd (pc := 9) C dX3_takesEffect_9 ?_
  refine zz_mld (pc := 10) C hR 9 (by decide) rfl dX3_takesEffect_10 (i := 9 * p9 + sg) (by rw [show (9 : Int32) * nI p9 = nI (9 * p9) from pk_mul 9 p9, nI_add]) (by show _ < 369; omega) ?_
  refine zz_istore_n (pc := 11) C dX3_takesEffect_11 (Nat.le_of_ble_eq_true rfl) ?_
  refine zz_iload_n (pc := 12) C dX3_takesEffect_12 rfl ?_
  refine zz_iconst (pc := 13) C (v := 2) (by decide) dX3_takesEffect_13 ?_
  refine zz_icmp_ne (pc := 14) C (tgt := 47) dX3_takesEffect_14 (by decide) (fun hc14 => ?_) (fun hc14 => ?_)
  · refine zz_iload_n (pc := 47) C dX3_takesEffect_47 rfl ?_
    refine zz_if_ne (pc := 48) C (tgt := 80) dX3_takesEffect_48 (by decide) (fun hc48 => ?_) (fun hc48 => ?_)
    · refine zz_iload_n (pc := 80) C dX3_takesEffect_80 rfl ?_
      refine zz_if_ne (pc := 81) C (tgt := 91) dX3_takesEffect_81 (by decide) (fun hc81 => ?_) (fun hc81 => ?_)
      · try (have ho : zOrph σ (σ 2 p9) := by have h9 := (zOrph_ag hag).mp (zb_ne.mp hc67); rw [hag 2 (by decide)] at h9; exact h9)
        first
          | exact zz_return (pc := 91) C dX3_takesEffect_91 (Nat.le_refl _) (Nat.le_refl _) ⟨rfl, _, hR, by rw [zEff_c (show zAct σ p9 sg = 2 from hA.symm.trans (Classical.not_not.mp hc14))]; show zAg _ (zCatch σ p9); unfold zCatch; rw [if_neg (fun z => z (by rw [← hag 6 (by decide)]; exact hc33)), ← hag 12 (by decide)]; exact zAg_zu hag, rfl, by rw [zEff_c (show zAct σ p9 sg = 2 from hA.symm.trans (Classical.not_not.mp hc14))]; exact hring.ag rfl rfl rfl⟩
          | exact zz_return (pc := 91) C dX3_takesEffect_91 (Nat.le_refl _) (Nat.le_refl _) ⟨rfl, _, hR, by rw [zEff_c (show zAct σ p9 sg = 2 from hA.symm.trans (Classical.not_not.mp hc14))]; show zAg _ (zCatch σ p9); unfold zCatch; rw [if_pos (by rw [← hag 6 (by decide)]; exact hc33), ← hag 12 (by decide)]; exact zEnds_ag (zAg_zu hag), by rw [zEnds_off (by decide)]; rfl, by rw [zEff_c (show zAct σ p9 sg = 2 from hA.symm.trans (Classical.not_not.mp hc14))]; exact hring.ag (by rw [zEnds_off (by decide)]; rfl) (by rw [zEnds_off (by decide)]; rfl) (by rw [zEnds_off (by decide)]; rfl)⟩
          | exact zz_return (pc := 91) C dX3_takesEffect_91 (Nat.le_refl _) (Nat.le_refl _) ⟨rfl, r, hR, by rw [zEff_o (show ¬ zAct σ p9 sg = 2 from fun z => hc14 (hA.trans z)) ⟨hA.symm.trans (Classical.not_not.mp hc48), hs6⟩ ho]; exact hag, rfl, by rw [zEff_o (show ¬ zAct σ p9 sg = 2 from fun z => hc14 (hA.trans z)) ⟨hA.symm.trans (Classical.not_not.mp hc48), hs6⟩ ho]; exact hring⟩
          | exact zz_return (pc := 91) C dX3_takesEffect_91 (Nat.le_refl _) (Nat.le_refl _) ⟨rfl, r2, hR2, by rw [zEff_s (show ¬ zAct σ p9 sg = 2 from fun z => hc14 (hA.trans z)) ⟨hA.symm.trans (Classical.not_not.mp hc48), hs6⟩ ho]; exact hag2, h232, by rw [zEff_s (show ¬ zAct σ p9 sg = 2 from fun z => hc14 (hA.trans z)) ⟨hA.symm.trans (Classical.not_not.mp hc48), hs6⟩ ho]; exact hring2⟩
          | exact zz_return (pc := 91) C dX3_takesEffect_91 (Nat.le_refl _) (Nat.le_refl _) ⟨rfl, r2, hR2, by rw [zEff_t (show zAct σ p9 sg = 0 from hA.symm.trans (Classical.not_not.mp hc81)) hs6]; exact hag2, h232, by rw [zEff_t (show zAct σ p9 sg = 0 from hA.symm.trans (Classical.not_not.mp hc81)) hs6]; exact hring2⟩
          | exact zz_return (pc := 91) C dX3_takesEffect_91 (Nat.le_refl _) (Nat.le_refl _) ⟨rfl, r, hR, by rw [zEff_i (show ¬ zAct σ p9 sg = 2 from fun z => hc14 (hA.trans z)) (show ¬ zAct σ p9 sg = 0 from fun z => hc81 (hA.trans z))]; exact hag, rfl, by rw [zEff_i (show ¬ zAct σ p9 sg = 2 from fun z => hc14 (hA.trans z)) (show ¬ zAct σ p9 sg = 0 from fun z => hc81 (hA.trans z))]; exact hring⟩
      · have hs6 : sg ≠ 6 := by
          rintro rfl
          first
            | exact hc54 rfl
            | exact hc81 hc48
        refine zz_aload_n (pc := 84) C dX3_takesEffect_84 rfl ?_
        refine zz_iload_n (pc := 85) C dX3_takesEffect_85 rfl ?_
        refine zz_iconst (pc := 86) C (v := 1) (by decide) dX3_takesEffect_86 ?_
        refine zz_iload_n (pc := 87) C dX3_takesEffect_87 rfl ?_
        refine zz_callV (pc := 88) C (c_mterm l D hR hag (how := 1) (w := nI sg) hL hring hroom) gX3_takesEffect_X3_terminates rfl 3 (by decide +kernel) ⟨Nat.le_of_ble_eq_true rfl, Nat.le_of_ble_eq_true rfl⟩ hR.2.1 (ci := 3) rfl rfl rfl dX3_takesEffect_88 rfl (Nat.le_of_ble_eq_true rfl) rfl ⟨Nat.le_of_ble_eq_true rfl, Nat.le_of_ble_eq_true rfl⟩ ?_
        rintro v G9 ⟨rfl, r2, hR2, hag2, h232, hring2⟩
        try (have ho : zOrph σ (σ 2 p9) := by have h9 := (zOrph_ag hag).mp (zb_ne.mp hc67); rw [hag 2 (by decide)] at h9; exact h9)
        first
          | exact zz_return (pc := 91) C dX3_takesEffect_91 (Nat.le_refl _) (Nat.le_refl _) ⟨rfl, _, hR, by rw [zEff_c (show zAct σ p9 sg = 2 from hA.symm.trans (Classical.not_not.mp hc14))]; show zAg _ (zCatch σ p9); unfold zCatch; rw [if_neg (fun z => z (by rw [← hag 6 (by decide)]; exact hc33)), ← hag 12 (by decide)]; exact zAg_zu hag, rfl, by rw [zEff_c (show zAct σ p9 sg = 2 from hA.symm.trans (Classical.not_not.mp hc14))]; exact hring.ag rfl rfl rfl⟩
          | exact zz_return (pc := 91) C dX3_takesEffect_91 (Nat.le_refl _) (Nat.le_refl _) ⟨rfl, _, hR, by rw [zEff_c (show zAct σ p9 sg = 2 from hA.symm.trans (Classical.not_not.mp hc14))]; show zAg _ (zCatch σ p9); unfold zCatch; rw [if_pos (by rw [← hag 6 (by decide)]; exact hc33), ← hag 12 (by decide)]; exact zEnds_ag (zAg_zu hag), by rw [zEnds_off (by decide)]; rfl, by rw [zEff_c (show zAct σ p9 sg = 2 from hA.symm.trans (Classical.not_not.mp hc14))]; exact hring.ag (by rw [zEnds_off (by decide)]; rfl) (by rw [zEnds_off (by decide)]; rfl) (by rw [zEnds_off (by decide)]; rfl)⟩
          | exact zz_return (pc := 91) C dX3_takesEffect_91 (Nat.le_refl _) (Nat.le_refl _) ⟨rfl, r, hR, by rw [zEff_o (show ¬ zAct σ p9 sg = 2 from fun z => hc14 (hA.trans z)) ⟨hA.symm.trans (Classical.not_not.mp hc48), hs6⟩ ho]; exact hag, rfl, by rw [zEff_o (show ¬ zAct σ p9 sg = 2 from fun z => hc14 (hA.trans z)) ⟨hA.symm.trans (Classical.not_not.mp hc48), hs6⟩ ho]; exact hring⟩
          | exact zz_return (pc := 91) C dX3_takesEffect_91 (Nat.le_refl _) (Nat.le_refl _) ⟨rfl, r2, hR2, by rw [zEff_s (show ¬ zAct σ p9 sg = 2 from fun z => hc14 (hA.trans z)) ⟨hA.symm.trans (Classical.not_not.mp hc48), hs6⟩ ho]; exact hag2, h232, by rw [zEff_s (show ¬ zAct σ p9 sg = 2 from fun z => hc14 (hA.trans z)) ⟨hA.symm.trans (Classical.not_not.mp hc48), hs6⟩ ho]; exact hring2⟩
          | exact zz_return (pc := 91) C dX3_takesEffect_91 (Nat.le_refl _) (Nat.le_refl _) ⟨rfl, r2, hR2, by rw [zEff_t (show zAct σ p9 sg = 0 from hA.symm.trans (Classical.not_not.mp hc81)) hs6]; exact hag2, h232, by rw [zEff_t (show zAct σ p9 sg = 0 from hA.symm.trans (Classical.not_not.mp hc81)) hs6]; exact hring2⟩
          | exact zz_return (pc := 91) C dX3_takesEffect_91 (Nat.le_refl _) (Nat.le_refl _) ⟨rfl, r, hR, by rw [zEff_i (show ¬ zAct σ p9 sg = 2 from fun z => hc14 (hA.trans z)) (show ¬ zAct σ p9 sg = 0 from fun z => hc81 (hA.trans z))]; exact hag, rfl, by rw [zEff_i (show ¬ zAct σ p9 sg = 2 from fun z => hc14 (hA.trans z)) (show ¬ zAct σ p9 sg = 0 from fun z => hc81 (hA.trans z))]; exact hring⟩
    · refine zz_iload_n (pc := 51) C dX3_takesEffect_51 rfl ?_
      refine zz_bipush (pc := 52) C (v := 6) (by decide) dX3_takesEffect_52 ?_
      refine zz_icmp_ne (pc := 54) C (tgt := 80) dX3_takesEffect_54 (by decide) (fun hc54 => ?_) (fun hc54 => ?_)
      · refine zz_iload_n (pc := 80) C dX3_takesEffect_80 rfl ?_
        refine zz_if_ne (pc := 81) C (tgt := 91) dX3_takesEffect_81 (by decide) (fun hc81 => ?_) (fun hc81 => ?_)
        · try (have ho : zOrph σ (σ 2 p9) := by have h9 := (zOrph_ag hag).mp (zb_ne.mp hc67); rw [hag 2 (by decide)] at h9; exact h9)
          first
            | exact zz_return (pc := 91) C dX3_takesEffect_91 (Nat.le_refl _) (Nat.le_refl _) ⟨rfl, _, hR, by rw [zEff_c (show zAct σ p9 sg = 2 from hA.symm.trans (Classical.not_not.mp hc14))]; show zAg _ (zCatch σ p9); unfold zCatch; rw [if_neg (fun z => z (by rw [← hag 6 (by decide)]; exact hc33)), ← hag 12 (by decide)]; exact zAg_zu hag, rfl, by rw [zEff_c (show zAct σ p9 sg = 2 from hA.symm.trans (Classical.not_not.mp hc14))]; exact hring.ag rfl rfl rfl⟩
            | exact zz_return (pc := 91) C dX3_takesEffect_91 (Nat.le_refl _) (Nat.le_refl _) ⟨rfl, _, hR, by rw [zEff_c (show zAct σ p9 sg = 2 from hA.symm.trans (Classical.not_not.mp hc14))]; show zAg _ (zCatch σ p9); unfold zCatch; rw [if_pos (by rw [← hag 6 (by decide)]; exact hc33), ← hag 12 (by decide)]; exact zEnds_ag (zAg_zu hag), by rw [zEnds_off (by decide)]; rfl, by rw [zEff_c (show zAct σ p9 sg = 2 from hA.symm.trans (Classical.not_not.mp hc14))]; exact hring.ag (by rw [zEnds_off (by decide)]; rfl) (by rw [zEnds_off (by decide)]; rfl) (by rw [zEnds_off (by decide)]; rfl)⟩
            | exact zz_return (pc := 91) C dX3_takesEffect_91 (Nat.le_refl _) (Nat.le_refl _) ⟨rfl, r, hR, by rw [zEff_o (show ¬ zAct σ p9 sg = 2 from fun z => hc14 (hA.trans z)) ⟨hA.symm.trans (Classical.not_not.mp hc48), hs6⟩ ho]; exact hag, rfl, by rw [zEff_o (show ¬ zAct σ p9 sg = 2 from fun z => hc14 (hA.trans z)) ⟨hA.symm.trans (Classical.not_not.mp hc48), hs6⟩ ho]; exact hring⟩
            | exact zz_return (pc := 91) C dX3_takesEffect_91 (Nat.le_refl _) (Nat.le_refl _) ⟨rfl, r2, hR2, by rw [zEff_s (show ¬ zAct σ p9 sg = 2 from fun z => hc14 (hA.trans z)) ⟨hA.symm.trans (Classical.not_not.mp hc48), hs6⟩ ho]; exact hag2, h232, by rw [zEff_s (show ¬ zAct σ p9 sg = 2 from fun z => hc14 (hA.trans z)) ⟨hA.symm.trans (Classical.not_not.mp hc48), hs6⟩ ho]; exact hring2⟩
            | exact zz_return (pc := 91) C dX3_takesEffect_91 (Nat.le_refl _) (Nat.le_refl _) ⟨rfl, r2, hR2, by rw [zEff_t (show zAct σ p9 sg = 0 from hA.symm.trans (Classical.not_not.mp hc81)) hs6]; exact hag2, h232, by rw [zEff_t (show zAct σ p9 sg = 0 from hA.symm.trans (Classical.not_not.mp hc81)) hs6]; exact hring2⟩
            | exact zz_return (pc := 91) C dX3_takesEffect_91 (Nat.le_refl _) (Nat.le_refl _) ⟨rfl, r, hR, by rw [zEff_i (show ¬ zAct σ p9 sg = 2 from fun z => hc14 (hA.trans z)) (show ¬ zAct σ p9 sg = 0 from fun z => hc81 (hA.trans z))]; exact hag, rfl, by rw [zEff_i (show ¬ zAct σ p9 sg = 2 from fun z => hc14 (hA.trans z)) (show ¬ zAct σ p9 sg = 0 from fun z => hc81 (hA.trans z))]; exact hring⟩
        · have hs6 : sg ≠ 6 := by
            rintro rfl
            first
              | exact hc54 rfl
              | exact hc81 hc48
          refine zz_aload_n (pc := 84) C dX3_takesEffect_84 rfl ?_
          refine zz_iload_n (pc := 85) C dX3_takesEffect_85 rfl ?_
          refine zz_iconst (pc := 86) C (v := 1) (by decide) dX3_takesEffect_86 ?_
          refine zz_iload_n (pc := 87) C dX3_takesEffect_87 rfl ?_
          refine zz_callV (pc := 88) C (c_mterm l D hR hag (how := 1) (w := nI sg) hL hring hroom) gX3_takesEffect_X3_terminates rfl 3 (by decide +kernel) ⟨Nat.le_of_ble_eq_true rfl, Nat.le_of_ble_eq_true rfl⟩ hR.2.1 (ci := 3) rfl rfl rfl dX3_takesEffect_88 rfl (Nat.le_of_ble_eq_true rfl) rfl ⟨Nat.le_of_ble_eq_true rfl, Nat.le_of_ble_eq_true rfl⟩ ?_
          rintro v G9 ⟨rfl, r2, hR2, hag2, h232, hring2⟩
          try (have ho : zOrph σ (σ 2 p9) := by have h9 := (zOrph_ag hag).mp (zb_ne.mp hc67); rw [hag 2 (by decide)] at h9; exact h9)
          first
            | exact zz_return (pc := 91) C dX3_takesEffect_91 (Nat.le_refl _) (Nat.le_refl _) ⟨rfl, _, hR, by rw [zEff_c (show zAct σ p9 sg = 2 from hA.symm.trans (Classical.not_not.mp hc14))]; show zAg _ (zCatch σ p9); unfold zCatch; rw [if_neg (fun z => z (by rw [← hag 6 (by decide)]; exact hc33)), ← hag 12 (by decide)]; exact zAg_zu hag, rfl, by rw [zEff_c (show zAct σ p9 sg = 2 from hA.symm.trans (Classical.not_not.mp hc14))]; exact hring.ag rfl rfl rfl⟩
            | exact zz_return (pc := 91) C dX3_takesEffect_91 (Nat.le_refl _) (Nat.le_refl _) ⟨rfl, _, hR, by rw [zEff_c (show zAct σ p9 sg = 2 from hA.symm.trans (Classical.not_not.mp hc14))]; show zAg _ (zCatch σ p9); unfold zCatch; rw [if_pos (by rw [← hag 6 (by decide)]; exact hc33), ← hag 12 (by decide)]; exact zEnds_ag (zAg_zu hag), by rw [zEnds_off (by decide)]; rfl, by rw [zEff_c (show zAct σ p9 sg = 2 from hA.symm.trans (Classical.not_not.mp hc14))]; exact hring.ag (by rw [zEnds_off (by decide)]; rfl) (by rw [zEnds_off (by decide)]; rfl) (by rw [zEnds_off (by decide)]; rfl)⟩
            | exact zz_return (pc := 91) C dX3_takesEffect_91 (Nat.le_refl _) (Nat.le_refl _) ⟨rfl, r, hR, by rw [zEff_o (show ¬ zAct σ p9 sg = 2 from fun z => hc14 (hA.trans z)) ⟨hA.symm.trans (Classical.not_not.mp hc48), hs6⟩ ho]; exact hag, rfl, by rw [zEff_o (show ¬ zAct σ p9 sg = 2 from fun z => hc14 (hA.trans z)) ⟨hA.symm.trans (Classical.not_not.mp hc48), hs6⟩ ho]; exact hring⟩
            | exact zz_return (pc := 91) C dX3_takesEffect_91 (Nat.le_refl _) (Nat.le_refl _) ⟨rfl, r2, hR2, by rw [zEff_s (show ¬ zAct σ p9 sg = 2 from fun z => hc14 (hA.trans z)) ⟨hA.symm.trans (Classical.not_not.mp hc48), hs6⟩ ho]; exact hag2, h232, by rw [zEff_s (show ¬ zAct σ p9 sg = 2 from fun z => hc14 (hA.trans z)) ⟨hA.symm.trans (Classical.not_not.mp hc48), hs6⟩ ho]; exact hring2⟩
            | exact zz_return (pc := 91) C dX3_takesEffect_91 (Nat.le_refl _) (Nat.le_refl _) ⟨rfl, r2, hR2, by rw [zEff_t (show zAct σ p9 sg = 0 from hA.symm.trans (Classical.not_not.mp hc81)) hs6]; exact hag2, h232, by rw [zEff_t (show zAct σ p9 sg = 0 from hA.symm.trans (Classical.not_not.mp hc81)) hs6]; exact hring2⟩
            | exact zz_return (pc := 91) C dX3_takesEffect_91 (Nat.le_refl _) (Nat.le_refl _) ⟨rfl, r, hR, by rw [zEff_i (show ¬ zAct σ p9 sg = 2 from fun z => hc14 (hA.trans z)) (show ¬ zAct σ p9 sg = 0 from fun z => hc81 (hA.trans z))]; exact hag, rfl, by rw [zEff_i (show ¬ zAct σ p9 sg = 2 from fun z => hc14 (hA.trans z)) (show ¬ zAct σ p9 sg = 0 from fun z => hc81 (hA.trans z))]; exact hring⟩
      · have hs6 : sg = 6 := (nI_eq (by omega) (by decide)).mp (show nI sg = nI 6 from Classical.not_not.mp hc54)
        refine zz_aload_n (pc := 57) C dX3_takesEffect_57 rfl ?_
        refine zz_aload_n (pc := 58) C dX3_takesEffect_58 rfl ?_
        refine zz_get (pc := 59) C in_X3_takesEffect_X3 (ci := 3) rfl 2 (by decide) (fl_X3_takesEffect_17) rfl dX3_takesEffect_59 hR.2.1 rfl ?_
        refine zz_iload_n (pc := 62) C dX3_takesEffect_62 rfl ?_
        refine zz_mld (pc := 63) C hR 2 (by decide) rfl dX3_takesEffect_63 rfl (by show _ < 41; omega) ?_
        refine zz_callV (pc := 64) C (c_X3_orphaned l D hR (g := r 2 p9) (by rw [hag 0 (by decide)]; exact hL.1.1) (hL.1.par hag)) gX3_takesEffect_X3_orphaned rfl 1 (by decide +kernel) ⟨Nat.le_of_ble_eq_true rfl, Nat.le_of_ble_eq_true rfl⟩ hR.2.1 (ci := 3) rfl rfl rfl dX3_takesEffect_64 rfl (Nat.le_of_ble_eq_true rfl) rfl ⟨Nat.le_of_ble_eq_true rfl, Nat.le_of_ble_eq_true rfl⟩ ?_
        rintro v G9 ⟨rfl, rfl⟩
        refine zz_if_ne (pc := 67) C (tgt := 91) dX3_takesEffect_67 (by decide) (fun hc67 => ?_) (fun hc67 => ?_)
        · try (have ho : zOrph σ (σ 2 p9) := by have h9 := (zOrph_ag hag).mp (zb_ne.mp hc67); rw [hag 2 (by decide)] at h9; exact h9)
          first
            | exact zz_return (pc := 91) C dX3_takesEffect_91 (Nat.le_refl _) (Nat.le_refl _) ⟨rfl, _, hR, by rw [zEff_c (show zAct σ p9 sg = 2 from hA.symm.trans (Classical.not_not.mp hc14))]; show zAg _ (zCatch σ p9); unfold zCatch; rw [if_neg (fun z => z (by rw [← hag 6 (by decide)]; exact hc33)), ← hag 12 (by decide)]; exact zAg_zu hag, rfl, by rw [zEff_c (show zAct σ p9 sg = 2 from hA.symm.trans (Classical.not_not.mp hc14))]; exact hring.ag rfl rfl rfl⟩
            | exact zz_return (pc := 91) C dX3_takesEffect_91 (Nat.le_refl _) (Nat.le_refl _) ⟨rfl, _, hR, by rw [zEff_c (show zAct σ p9 sg = 2 from hA.symm.trans (Classical.not_not.mp hc14))]; show zAg _ (zCatch σ p9); unfold zCatch; rw [if_pos (by rw [← hag 6 (by decide)]; exact hc33), ← hag 12 (by decide)]; exact zEnds_ag (zAg_zu hag), by rw [zEnds_off (by decide)]; rfl, by rw [zEff_c (show zAct σ p9 sg = 2 from hA.symm.trans (Classical.not_not.mp hc14))]; exact hring.ag (by rw [zEnds_off (by decide)]; rfl) (by rw [zEnds_off (by decide)]; rfl) (by rw [zEnds_off (by decide)]; rfl)⟩
            | exact zz_return (pc := 91) C dX3_takesEffect_91 (Nat.le_refl _) (Nat.le_refl _) ⟨rfl, r, hR, by rw [zEff_o (show ¬ zAct σ p9 sg = 2 from fun z => hc14 (hA.trans z)) ⟨hA.symm.trans (Classical.not_not.mp hc48), hs6⟩ ho]; exact hag, rfl, by rw [zEff_o (show ¬ zAct σ p9 sg = 2 from fun z => hc14 (hA.trans z)) ⟨hA.symm.trans (Classical.not_not.mp hc48), hs6⟩ ho]; exact hring⟩
            | exact zz_return (pc := 91) C dX3_takesEffect_91 (Nat.le_refl _) (Nat.le_refl _) ⟨rfl, r2, hR2, by rw [zEff_s (show ¬ zAct σ p9 sg = 2 from fun z => hc14 (hA.trans z)) ⟨hA.symm.trans (Classical.not_not.mp hc48), hs6⟩ ho]; exact hag2, h232, by rw [zEff_s (show ¬ zAct σ p9 sg = 2 from fun z => hc14 (hA.trans z)) ⟨hA.symm.trans (Classical.not_not.mp hc48), hs6⟩ ho]; exact hring2⟩
            | exact zz_return (pc := 91) C dX3_takesEffect_91 (Nat.le_refl _) (Nat.le_refl _) ⟨rfl, r2, hR2, by rw [zEff_t (show zAct σ p9 sg = 0 from hA.symm.trans (Classical.not_not.mp hc81)) hs6]; exact hag2, h232, by rw [zEff_t (show zAct σ p9 sg = 0 from hA.symm.trans (Classical.not_not.mp hc81)) hs6]; exact hring2⟩
            | exact zz_return (pc := 91) C dX3_takesEffect_91 (Nat.le_refl _) (Nat.le_refl _) ⟨rfl, r, hR, by rw [zEff_i (show ¬ zAct σ p9 sg = 2 from fun z => hc14 (hA.trans z)) (show ¬ zAct σ p9 sg = 0 from fun z => hc81 (hA.trans z))]; exact hag, rfl, by rw [zEff_i (show ¬ zAct σ p9 sg = 2 from fun z => hc14 (hA.trans z)) (show ¬ zAct σ p9 sg = 0 from fun z => hc81 (hA.trans z))]; exact hring⟩
        · have ho : ¬ zOrph σ (σ 2 p9) := fun z => hc67 (zb_ne.mpr ((zOrph_ag hag).mpr (by rw [hag 2 (by decide)]; exact z)))
          refine zz_aload_n (pc := 70) C dX3_takesEffect_70 rfl ?_
          refine zz_iload_n (pc := 71) C dX3_takesEffect_71 rfl ?_
          refine zz_bipush (pc := 72) C (v := 6) (by decide) dX3_takesEffect_72 ?_
          refine zz_callV (pc := 74) C (c_mstop l D hR hag (p9 := p9) (sg := 6) (by omega) hring (by omega)) gX3_takesEffect_X3_stops rfl 2 (by decide +kernel) ⟨Nat.le_of_ble_eq_true rfl, Nat.le_of_ble_eq_true rfl⟩ hR.2.1 (ci := 3) rfl rfl rfl dX3_takesEffect_74 rfl (Nat.le_of_ble_eq_true rfl) rfl ⟨Nat.le_of_ble_eq_true rfl, Nat.le_of_ble_eq_true rfl⟩ ?_
          rintro v G9 ⟨rfl, r2, hR2, hag2, h232, hring2⟩
          refine zz_goto (pc := 77) C (tgt := 91) dX3_takesEffect_77 (by decide) ?_
          try (have ho : zOrph σ (σ 2 p9) := by have h9 := (zOrph_ag hag).mp (zb_ne.mp hc67); rw [hag 2 (by decide)] at h9; exact h9)
          first
            | exact zz_return (pc := 91) C dX3_takesEffect_91 (Nat.le_refl _) (Nat.le_refl _) ⟨rfl, _, hR, by rw [zEff_c (show zAct σ p9 sg = 2 from hA.symm.trans (Classical.not_not.mp hc14))]; show zAg _ (zCatch σ p9); unfold zCatch; rw [if_neg (fun z => z (by rw [← hag 6 (by decide)]; exact hc33)), ← hag 12 (by decide)]; exact zAg_zu hag, rfl, by rw [zEff_c (show zAct σ p9 sg = 2 from hA.symm.trans (Classical.not_not.mp hc14))]; exact hring.ag rfl rfl rfl⟩
            | exact zz_return (pc := 91) C dX3_takesEffect_91 (Nat.le_refl _) (Nat.le_refl _) ⟨rfl, _, hR, by rw [zEff_c (show zAct σ p9 sg = 2 from hA.symm.trans (Classical.not_not.mp hc14))]; show zAg _ (zCatch σ p9); unfold zCatch; rw [if_pos (by rw [← hag 6 (by decide)]; exact hc33), ← hag 12 (by decide)]; exact zEnds_ag (zAg_zu hag), by rw [zEnds_off (by decide)]; rfl, by rw [zEff_c (show zAct σ p9 sg = 2 from hA.symm.trans (Classical.not_not.mp hc14))]; exact hring.ag (by rw [zEnds_off (by decide)]; rfl) (by rw [zEnds_off (by decide)]; rfl) (by rw [zEnds_off (by decide)]; rfl)⟩
            | exact zz_return (pc := 91) C dX3_takesEffect_91 (Nat.le_refl _) (Nat.le_refl _) ⟨rfl, r, hR, by rw [zEff_o (show ¬ zAct σ p9 sg = 2 from fun z => hc14 (hA.trans z)) ⟨hA.symm.trans (Classical.not_not.mp hc48), hs6⟩ ho]; exact hag, rfl, by rw [zEff_o (show ¬ zAct σ p9 sg = 2 from fun z => hc14 (hA.trans z)) ⟨hA.symm.trans (Classical.not_not.mp hc48), hs6⟩ ho]; exact hring⟩
            | exact zz_return (pc := 91) C dX3_takesEffect_91 (Nat.le_refl _) (Nat.le_refl _) ⟨rfl, r2, hR2, by rw [zEff_s (show ¬ zAct σ p9 sg = 2 from fun z => hc14 (hA.trans z)) ⟨hA.symm.trans (Classical.not_not.mp hc48), hs6⟩ ho]; exact hag2, h232, by rw [zEff_s (show ¬ zAct σ p9 sg = 2 from fun z => hc14 (hA.trans z)) ⟨hA.symm.trans (Classical.not_not.mp hc48), hs6⟩ ho]; exact hring2⟩
            | exact zz_return (pc := 91) C dX3_takesEffect_91 (Nat.le_refl _) (Nat.le_refl _) ⟨rfl, r2, hR2, by rw [zEff_t (show zAct σ p9 sg = 0 from hA.symm.trans (Classical.not_not.mp hc81)) hs6]; exact hag2, h232, by rw [zEff_t (show zAct σ p9 sg = 0 from hA.symm.trans (Classical.not_not.mp hc81)) hs6]; exact hring2⟩
            | exact zz_return (pc := 91) C dX3_takesEffect_91 (Nat.le_refl _) (Nat.le_refl _) ⟨rfl, r, hR, by rw [zEff_i (show ¬ zAct σ p9 sg = 2 from fun z => hc14 (hA.trans z)) (show ¬ zAct σ p9 sg = 0 from fun z => hc81 (hA.trans z))]; exact hag, rfl, by rw [zEff_i (show ¬ zAct σ p9 sg = 2 from fun z => hc14 (hA.trans z)) (show ¬ zAct σ p9 sg = 0 from fun z => hc81 (hA.trans z))]; exact hring⟩
  · refine zz_aload_n (pc := 17) C dX3_takesEffect_17 rfl ?_
    refine zz_get (pc := 18) C in_X3_takesEffect_X3 (ci := 3) rfl 12 (by decide) (fl_X3_takesEffect_47) rfl dX3_takesEffect_18 hR.2.1 rfl ?_
    refine zz_iload_n (pc := 21) C dX3_takesEffect_21 rfl ?_
    refine zz_dup2 (pc := 22) C dX3_takesEffect_22 rfl rfl ?_
    refine zz_mld (pc := 23) C hR 12 (by decide) rfl dX3_takesEffect_23 rfl (by show _ < 41; omega) ?_
    refine zz_iconst (pc := 24) C (v := 1) (by decide) dX3_takesEffect_24 ?_
    refine zz_iadd (pc := 25) C dX3_takesEffect_25 ?_
    refine zz_mst (pc := 26) C hR 12 (by decide) rfl dX3_takesEffect_26 rfl (by show _ < 41; omega) (fun G hR => ?_)
    refine zz_aload_n (pc := 27) C dX3_takesEffect_27 rfl ?_
    refine zz_get (pc := 28) C in_X3_takesEffect_X3 (ci := 3) rfl 6 (by decide) (fl_X3_takesEffect_29) rfl dX3_takesEffect_28 hR.2.1 rfl ?_
    refine zz_iload_n (pc := 31) C dX3_takesEffect_31 rfl ?_
    refine zz_mldz (pc := 32) C hR 6 (by decide) rfl dX3_takesEffect_32 rfl (by show _ < 41; omega) ?_
    refine zz_if_eq (pc := 33) C (tgt := 91) dX3_takesEffect_33 (by decide) (fun hc33 => ?_) (fun hc33 => ?_)
    · try (have ho : zOrph σ (σ 2 p9) := by have h9 := (zOrph_ag hag).mp (zb_ne.mp hc67); rw [hag 2 (by decide)] at h9; exact h9)
      first
        | exact zz_return (pc := 91) C dX3_takesEffect_91 (Nat.le_refl _) (Nat.le_refl _) ⟨rfl, _, hR, by rw [zEff_c (show zAct σ p9 sg = 2 from hA.symm.trans (Classical.not_not.mp hc14))]; show zAg _ (zCatch σ p9); unfold zCatch; rw [if_neg (fun z => z (by rw [← hag 6 (by decide)]; exact hc33)), ← hag 12 (by decide)]; exact zAg_zu hag, rfl, by rw [zEff_c (show zAct σ p9 sg = 2 from hA.symm.trans (Classical.not_not.mp hc14))]; exact hring.ag rfl rfl rfl⟩
        | exact zz_return (pc := 91) C dX3_takesEffect_91 (Nat.le_refl _) (Nat.le_refl _) ⟨rfl, _, hR, by rw [zEff_c (show zAct σ p9 sg = 2 from hA.symm.trans (Classical.not_not.mp hc14))]; show zAg _ (zCatch σ p9); unfold zCatch; rw [if_pos (by rw [← hag 6 (by decide)]; exact hc33), ← hag 12 (by decide)]; exact zEnds_ag (zAg_zu hag), by rw [zEnds_off (by decide)]; rfl, by rw [zEff_c (show zAct σ p9 sg = 2 from hA.symm.trans (Classical.not_not.mp hc14))]; exact hring.ag (by rw [zEnds_off (by decide)]; rfl) (by rw [zEnds_off (by decide)]; rfl) (by rw [zEnds_off (by decide)]; rfl)⟩
        | exact zz_return (pc := 91) C dX3_takesEffect_91 (Nat.le_refl _) (Nat.le_refl _) ⟨rfl, r, hR, by rw [zEff_o (show ¬ zAct σ p9 sg = 2 from fun z => hc14 (hA.trans z)) ⟨hA.symm.trans (Classical.not_not.mp hc48), hs6⟩ ho]; exact hag, rfl, by rw [zEff_o (show ¬ zAct σ p9 sg = 2 from fun z => hc14 (hA.trans z)) ⟨hA.symm.trans (Classical.not_not.mp hc48), hs6⟩ ho]; exact hring⟩
        | exact zz_return (pc := 91) C dX3_takesEffect_91 (Nat.le_refl _) (Nat.le_refl _) ⟨rfl, r2, hR2, by rw [zEff_s (show ¬ zAct σ p9 sg = 2 from fun z => hc14 (hA.trans z)) ⟨hA.symm.trans (Classical.not_not.mp hc48), hs6⟩ ho]; exact hag2, h232, by rw [zEff_s (show ¬ zAct σ p9 sg = 2 from fun z => hc14 (hA.trans z)) ⟨hA.symm.trans (Classical.not_not.mp hc48), hs6⟩ ho]; exact hring2⟩
        | exact zz_return (pc := 91) C dX3_takesEffect_91 (Nat.le_refl _) (Nat.le_refl _) ⟨rfl, r2, hR2, by rw [zEff_t (show zAct σ p9 sg = 0 from hA.symm.trans (Classical.not_not.mp hc81)) hs6]; exact hag2, h232, by rw [zEff_t (show zAct σ p9 sg = 0 from hA.symm.trans (Classical.not_not.mp hc81)) hs6]; exact hring2⟩
        | exact zz_return (pc := 91) C dX3_takesEffect_91 (Nat.le_refl _) (Nat.le_refl _) ⟨rfl, r, hR, by rw [zEff_i (show ¬ zAct σ p9 sg = 2 from fun z => hc14 (hA.trans z)) (show ¬ zAct σ p9 sg = 0 from fun z => hc81 (hA.trans z))]; exact hag, rfl, by rw [zEff_i (show ¬ zAct σ p9 sg = 2 from fun z => hc14 (hA.trans z)) (show ¬ zAct σ p9 sg = 0 from fun z => hc81 (hA.trans z))]; exact hring⟩
    · refine zz_aload_n (pc := 36) C dX3_takesEffect_36 rfl ?_
      refine zz_iload_n (pc := 37) C dX3_takesEffect_37 rfl ?_
      refine zz_iconst (pc := 38) C (v := 3) (by decide) dX3_takesEffect_38 ?_
      refine zz_iconst (pc := 39) C (v := -1) (by decide) dX3_takesEffect_39 ?_
      refine zz_iconst (pc := 40) C (v := -1) (by decide) dX3_takesEffect_40 ?_
      refine zz_callV (pc := 41) C (c_X3_ends l D hR (k := p9) (a := 3) (b := -1) (d := -1) (by omega)) gX3_takesEffect_X3_ends rfl 4 (by decide +kernel) ⟨Nat.le_of_ble_eq_true rfl, Nat.le_of_ble_eq_true rfl⟩ hR.2.1 (ci := 3) rfl rfl rfl dX3_takesEffect_41 rfl (Nat.le_of_ble_eq_true rfl) rfl ⟨Nat.le_of_ble_eq_true rfl, Nat.le_of_ble_eq_true rfl⟩ ?_
      rintro v G9 ⟨rfl, hR⟩
      refine zz_goto (pc := 44) C (tgt := 91) dX3_takesEffect_44 (by decide) ?_
      try (have ho : zOrph σ (σ 2 p9) := by have h9 := (zOrph_ag hag).mp (zb_ne.mp hc67); rw [hag 2 (by decide)] at h9; exact h9)
      first
        | exact zz_return (pc := 91) C dX3_takesEffect_91 (Nat.le_refl _) (Nat.le_refl _) ⟨rfl, _, hR, by rw [zEff_c (show zAct σ p9 sg = 2 from hA.symm.trans (Classical.not_not.mp hc14))]; show zAg _ (zCatch σ p9); unfold zCatch; rw [if_neg (fun z => z (by rw [← hag 6 (by decide)]; exact hc33)), ← hag 12 (by decide)]; exact zAg_zu hag, rfl, by rw [zEff_c (show zAct σ p9 sg = 2 from hA.symm.trans (Classical.not_not.mp hc14))]; exact hring.ag rfl rfl rfl⟩
        | exact zz_return (pc := 91) C dX3_takesEffect_91 (Nat.le_refl _) (Nat.le_refl _) ⟨rfl, _, hR, by rw [zEff_c (show zAct σ p9 sg = 2 from hA.symm.trans (Classical.not_not.mp hc14))]; show zAg _ (zCatch σ p9); unfold zCatch; rw [if_pos (by rw [← hag 6 (by decide)]; exact hc33), ← hag 12 (by decide)]; exact zEnds_ag (zAg_zu hag), by rw [zEnds_off (by decide)]; rfl, by rw [zEff_c (show zAct σ p9 sg = 2 from hA.symm.trans (Classical.not_not.mp hc14))]; exact hring.ag (by rw [zEnds_off (by decide)]; rfl) (by rw [zEnds_off (by decide)]; rfl) (by rw [zEnds_off (by decide)]; rfl)⟩
        | exact zz_return (pc := 91) C dX3_takesEffect_91 (Nat.le_refl _) (Nat.le_refl _) ⟨rfl, r, hR, by rw [zEff_o (show ¬ zAct σ p9 sg = 2 from fun z => hc14 (hA.trans z)) ⟨hA.symm.trans (Classical.not_not.mp hc48), hs6⟩ ho]; exact hag, rfl, by rw [zEff_o (show ¬ zAct σ p9 sg = 2 from fun z => hc14 (hA.trans z)) ⟨hA.symm.trans (Classical.not_not.mp hc48), hs6⟩ ho]; exact hring⟩
        | exact zz_return (pc := 91) C dX3_takesEffect_91 (Nat.le_refl _) (Nat.le_refl _) ⟨rfl, r2, hR2, by rw [zEff_s (show ¬ zAct σ p9 sg = 2 from fun z => hc14 (hA.trans z)) ⟨hA.symm.trans (Classical.not_not.mp hc48), hs6⟩ ho]; exact hag2, h232, by rw [zEff_s (show ¬ zAct σ p9 sg = 2 from fun z => hc14 (hA.trans z)) ⟨hA.symm.trans (Classical.not_not.mp hc48), hs6⟩ ho]; exact hring2⟩
        | exact zz_return (pc := 91) C dX3_takesEffect_91 (Nat.le_refl _) (Nat.le_refl _) ⟨rfl, r2, hR2, by rw [zEff_t (show zAct σ p9 sg = 0 from hA.symm.trans (Classical.not_not.mp hc81)) hs6]; exact hag2, h232, by rw [zEff_t (show zAct σ p9 sg = 0 from hA.symm.trans (Classical.not_not.mp hc81)) hs6]; exact hring2⟩
        | exact zz_return (pc := 91) C dX3_takesEffect_91 (Nat.le_refl _) (Nat.le_refl _) ⟨rfl, r, hR, by rw [zEff_i (show ¬ zAct σ p9 sg = 2 from fun z => hc14 (hA.trans z)) (show ¬ zAct σ p9 sg = 0 from fun z => hc81 (hA.trans z))]; exact hag, rfl, by rw [zEff_i (show ¬ zAct σ p9 sg = 2 from fun z => hc14 (hA.trans z)) (show ¬ zAct σ p9 sg = 0 from fun z => hc81 (hA.trans z))]; exact hring⟩
theorem zEff_0 (x : zS × List zEv) (p s f : Nat) (hf : f = 0 ∨ f = 10 ∨ f = 2 ∨ f = 3 ∨ f = 9) : (zEff x p s).1 f = x.1 f := by
  rcases zEff_cases x p s with h | h | h | h <;> rw [h]
  · exact zCatch_off (by omega)
  · exact zStop_off (by omega)
  · show zT3 x.1 p 1 (nI s) f = _
    rw [zT3_off (by omega), zT2_off (by omega)]
theorem zEff_live (x : zS × List zEv) (p s : Nat) (h4 : (zEff x p s).1 4 p = 0) : (∀ f, f = 0 ∨ f = 1 ∨ f = 2 ∨ f = 4 ∨ f = 11 → (zEff x p s).1 f = x.1 f) ∧ ((zEff x p s).1 5 p = 0 → (zEff x p s).2 = x.2 ∧ (zEff x p s).1 5 = x.1 5) := by
  rcases zEff_cases x p s with h | h | h | h <;> rw [h] at h4 ⊢
  · exact ⟨fun f hf => zCatch_off (by omega), fun _ => ⟨rfl, zCatch_off (by decide)⟩⟩
  · exact ⟨fun f hf => rfl, fun _ => ⟨rfl, rfl⟩⟩
  · refine ⟨fun f hf => zStop_off (by omega), fun h5 => ?_⟩
    rw [zStop_5] at h5
    exact absurd h5 (by decide)
  · have : zT3 x.1 p 1 (nI s) 4 p = 0 := h4
    rw [zT3_4] at this
    exact absurd this (by decide)
theorem zEff_pend (x : zS × List zEv) (p s : Nat) : (zEff x p s).1 11 p = x.1 11 p ∨ (zEff x p s).1 11 p = 0 := by
  rcases zEff_cases x p s with h | h | h | h <;> rw [h]
  · exact Or.inl (by rw [show (zCatch x.1 p, x.2).1 = zCatch x.1 p from rfl, zCatch_off (by decide)])
  · exact Or.inl rfl
  · exact Or.inl (by rw [zStop_off (by decide)])
  · exact Or.inr zT3_11
theorem zOpen_ag {r σ : zS} (h : zAg r σ) {p : Nat} : zOpen r p = zOpen σ p := by unfold zOpen; rw [h 11 (by decide), h 10 (by decide)]
theorem zLeast {P : Nat → Prop} : ∀ {n : Nat}, P n → ∃ k, k ≤ n ∧ P k ∧ ∀ j, j < k → ¬ P j := by
  intro n
  induction n using Nat.strongRecOn with
  | ind n ih =>
    intro hn
    by_cases h : ∃ j, j < n ∧ P j
    · obtain ⟨j, h1, h2⟩ := h
      obtain ⟨k, a, b, c⟩ := ih j h1 h2
      exact ⟨k, by omega, b, c⟩
    · exact ⟨n, Nat.le_refl _, hn, fun j hj hp => h ⟨j, hj, hp⟩⟩
theorem fl_X3_delivers_44 : Cond.fieldLink RX3 44 "SignalpostModel" "pending" "[I" ∈ wsX3_delivers := by decide +kernel
theorem fl_X3_delivers_41 : Cond.fieldLink RX3 41 "SignalpostModel" "mask" "[I" ∈ wsX3_delivers := by decide +kernel
theorem fl_X3_delivers_23 : Cond.fieldLink RX3 23 "SignalpostModel" "isZombie" "[Z" ∈ wsX3_delivers := by decide +kernel
theorem fl_X3_delivers_26 : Cond.fieldLink RX3 26 "SignalpostModel" "isStopped" "[Z" ∈ wsX3_delivers := by decide +kernel
theorem in_X3_delivers_X3 : ∀ w ∈ u_ws RX3 TX3 29, w ∈ wsX3_delivers := by decide +kernel
set_option maxHeartbeats 4000000 in
set_option maxRecDepth 100000 in
theorem c_X3_delivers (l : Launch) (D : va_G) {B G : zG} {y : Nat} {ma : Nat → Nat} {r : zS} {σ : zS} {q : List zEv} {p9 : Nat} (hR : zModR B y ma r G) (hag : zAg r σ) (hp : 1 ≤ p9 ∧ p9 < 41) (h00 : σ 0 0 = 0) (hL : σ 4 p9 = 0 → zLv σ p9) (h511 : σ 11 p9 &&& 511 = σ 11 p9) (hring : zRing r q) (hroom : σ 4 p9 = 0 → σ 5 p9 = 0 → q.length + 300 < 8192) : zMet D l yX3_delivers wsX3_delivers ({ frames := 4, cells := 0, slots := 0, locals := 95 } : Room) [.ref y, .int (nI p9)] G (fun v G9 => v = none ∧ ∃ r2, zModR B y ma r2 G9 ∧ zAg r2 (zDel (σ, q) p9).1 ∧ r2 23 = r 23 ∧ zRing r2 (zDel (σ, q) p9).2) := by
  refine zMet_of (cc := cX3_delivers) (maxL := 4) (ret := none) (by decide) rfl (Nat.le_of_ble_eq_true rfl) ?_
  intro p e s m args below meth c C hmn
  have k93 : ∀ (r1 : zS) (x : zS × List zEv) (G1 : zG) (a b : Option Value), x = zDfold p9 (σ, q) 9 → zModR B y ma r1 G1 → zAg r1 x.1 → r1 23 = r 23 → zRing r1 x.2 → x.1 0 0 = 0 → zV p l e ({ frames := 4, cells := 0, slots := 0, locals := 95 } : Room) s m args below meth c D (zA G s.heap.size) 0 0 (zZ below D G (fun v G9 => v = none ∧ ∃ r2, zModR B y ma r2 G9 ∧ zAg r2 (zDel (σ, q) p9).1 ∧ r2 23 = r 23 ∧ zRing r2 (zDel (σ, q) p9).2) args s ({ frames := 4, cells := 0, slots := 0, locals := 95 } : Room)) G1 93 [some (.ref y), some (.int (nI p9)), a, b] [] := by
    intro r1 x G1 a b hx hR hag h23 hring h00
    refine zz_aload_n (pc := 93) C dX3_delivers_93 rfl ?_
    refine zz_iload_n (pc := 94) C dX3_delivers_94 rfl ?_
    refine zz_callV (pc := 95) C (c_mcheck l D hR hag h00 (by omega) hring) gX3_delivers_X3_checks rfl 1 (by decide +kernel) ⟨Nat.le_of_ble_eq_true rfl, Nat.le_of_ble_eq_true rfl⟩ hR.2.1 (ci := 3) rfl rfl rfl dX3_delivers_95 rfl (Nat.le_of_ble_eq_true rfl) rfl ⟨Nat.le_of_ble_eq_true rfl, Nat.le_of_ble_eq_true rfl⟩ ?_
    rintro v G9 ⟨rfl, r2, hR2, hag2, h232, hring2⟩
    exact zz_return (pc := 98) C dX3_delivers_98 (Nat.le_refl _) (Nat.le_refl _) ⟨rfl, r2, hR2, by unfold zDel; rw [← hx]; exact hag2, h232.trans h23, by unfold zDel; rw [← hx]; exact hring2⟩
  have kL : ∀ (n k : Nat) (r1 : zS) (x : zS × List zEv) (G1 : zG), k + n = 9 → zModR B y ma r1 G1 → zAg r1 x.1 → r1 23 = r 23 → zRing r1 x.2 → (x.1 4 p9 = 0 → zLv x.1 p9) → x.1 0 0 = 0 → (x.1 4 p9 = 0 → x.1 5 p9 = 0 → ∀ s, s < k → zbit (zOpen x.1 p9) s = false) → x.1 11 p9 &&& 511 = x.1 11 p9 → (x.1 4 p9 = 0 → x.1 5 p9 = 0 → x.2.length + 300 < 8192) → zDfrom p9 x k = zDfold p9 (σ, q) 9 → zV p l e ({ frames := 4, cells := 0, slots := 0, locals := 95 } : Room) s m args below meth c D (zA G s.heap.size) 0 0 (zZ below D G (fun v G9 => v = none ∧ ∃ r2, zModR B y ma r2 G9 ∧ zAg r2 (zDel (σ, q) p9).1 ∧ r2 23 = r 23 ∧ zRing r2 (zDel (σ, q) p9).2) args s ({ frames := 4, cells := 0, slots := 0, locals := 95 } : Room)) G1 16 [some (.ref y), some (.int (nI p9)), some (.int (zOpen r1 p9)), none] [] := by
    intro n
    induction n using Nat.strongRecOn with
    | ind n ih =>
      intro k r1 x G1 hkn hR hag h23 hring hlv h00 hlow h511 hlen hd
      refine zV.less (L' := [some (.ref y), some (.int (nI p9)), some (.int (zOpen r1 p9)), none]) ⟨rfl, rfl, rfl, trivial⟩ ?_
      refine zz_iload_n (pc := 16) C dX3_delivers_16 rfl ?_
      refine zz_if_eq (pc := 17) C (tgt := 93) dX3_delivers_17 (by decide) (fun hc17 => ?_) (fun hc17 => ?_)
      · first
          | exact k93 r1 x _ _ _ ((zDfrom_end (by omega) (fun s hs1 hs2 q9 => q9.2.2 (by rw [← zOpen_ag hag, hc17]; exact Int32.zero_and))).symm.trans hd) hR hag h23 hring h00
          | exact k93 r1 x _ _ _ ((zDfrom_end (by omega) (fun s hs1 hs2 q9 => hc26 (by rw [hag 4 (by decide)]; exact q9.1))).symm.trans hd) hR hag h23 hring h00
          | exact k93 r1 x _ _ _ ((zDfrom_end (by omega) (fun s hs1 hs2 q9 => hc35 (by rw [hag 5 (by decide)]; exact q9.2.1))).symm.trans hd) hR hag h23 hring h00
      · refine zz_aload_n (pc := 20) C dX3_delivers_20 rfl ?_
        refine zz_get (pc := 21) C in_X3_delivers_X3 (ci := 3) rfl 4 (by decide) (fl_X3_delivers_23) rfl dX3_delivers_21 hR.2.1 rfl ?_
        refine zz_iload_n (pc := 24) C dX3_delivers_24 rfl ?_
        refine zz_mldz (pc := 25) C hR 4 (by decide) rfl dX3_delivers_25 rfl (by show _ < 41; omega) ?_
        refine zz_if_ne (pc := 26) C (tgt := 93) dX3_delivers_26 (by decide) (fun hc26 => ?_) (fun hc26 => ?_)
        · first
            | exact k93 r1 x _ _ _ ((zDfrom_end (by omega) (fun s hs1 hs2 q9 => q9.2.2 (by rw [← zOpen_ag hag, hc17]; exact Int32.zero_and))).symm.trans hd) hR hag h23 hring h00
            | exact k93 r1 x _ _ _ ((zDfrom_end (by omega) (fun s hs1 hs2 q9 => hc26 (by rw [hag 4 (by decide)]; exact q9.1))).symm.trans hd) hR hag h23 hring h00
            | exact k93 r1 x _ _ _ ((zDfrom_end (by omega) (fun s hs1 hs2 q9 => hc35 (by rw [hag 5 (by decide)]; exact q9.2.1))).symm.trans hd) hR hag h23 hring h00
        · refine zz_aload_n (pc := 29) C dX3_delivers_29 rfl ?_
          refine zz_get (pc := 30) C in_X3_delivers_X3 (ci := 3) rfl 5 (by decide) (fl_X3_delivers_26) rfl dX3_delivers_30 hR.2.1 rfl ?_
          refine zz_iload_n (pc := 33) C dX3_delivers_33 rfl ?_
          refine zz_mldz (pc := 34) C hR 5 (by decide) rfl dX3_delivers_34 rfl (by show _ < 41; omega) ?_
          refine zz_if_ne (pc := 35) C (tgt := 93) dX3_delivers_35 (by decide) (fun hc35 => ?_) (fun hc35 => ?_)
          · first
              | exact k93 r1 x _ _ _ ((zDfrom_end (by omega) (fun s hs1 hs2 q9 => q9.2.2 (by rw [← zOpen_ag hag, hc17]; exact Int32.zero_and))).symm.trans hd) hR hag h23 hring h00
              | exact k93 r1 x _ _ _ ((zDfrom_end (by omega) (fun s hs1 hs2 q9 => hc26 (by rw [hag 4 (by decide)]; exact q9.1))).symm.trans hd) hR hag h23 hring h00
              | exact k93 r1 x _ _ _ ((zDfrom_end (by omega) (fun s hs1 hs2 q9 => hc35 (by rw [hag 5 (by decide)]; exact q9.2.1))).symm.trans hd) hR hag h23 hring h00
          · refine zz_iconst (pc := 38) C (v := 0) (by decide) dX3_delivers_38 ?_
            refine zz_istore_n (pc := 39) C dX3_delivers_39 (Nat.le_of_ble_eq_true rfl) ?_
            have h4 : x.1 4 p9 = 0 := by rw [← hag 4 (by decide)]; exact Classical.not_not.mp hc26
            have h5 : x.1 5 p9 = 0 := by rw [← hag 5 (by decide)]; exact Classical.not_not.mp hc35
            have hex : ∃ s, s < 32 ∧ zbit (zOpen x.1 p9) s = true := zbit_ne0.mp (by rw [← zOpen_ag hag]; exact hc17)
            obtain ⟨sx, hsx⟩ := hex
            obtain ⟨s0, hs0x, hs0, hmin⟩ := zLeast (P := fun s => s < 32 ∧ zbit (zOpen x.1 p9) s = true) hsx
            have hs9 : s0 < 9 := by
              have := hs0.2
              rw [zopen_bit hs0.1, Bool.and_eq_true] at this
              exact zbit_9 h511 hs0.1 this.1
            have hks : k ≤ s0 := by
              refine Nat.le_of_not_lt (fun q9 => ?_)
              have := hlow h4 h5 s0 q9
              rw [this] at hs0; cases hs0.2
            have k54 : zV p l e ({ frames := 4, cells := 0, slots := 0, locals := 95 } : Room) s m args below meth c D (zA G s.heap.size) 0 0 (zZ below D G (fun v G9 => v = none ∧ ∃ r2, zModR B y ma r2 G9 ∧ zAg r2 (zDel (σ, q) p9).1 ∧ r2 23 = r 23 ∧ zRing r2 (zDel (σ, q) p9).2) args s ({ frames := 4, cells := 0, slots := 0, locals := 95 } : Room)) G1 54 [some (.ref y), some (.int (nI p9)), some (.int (zOpen r1 p9)), some (.int (nI (s0)))] [] := by
              skip
              refine zz_aload_n (pc := 54) C dX3_delivers_54 rfl ?_
              refine zz_get (pc := 55) C in_X3_delivers_X3 (ci := 3) rfl 11 (by decide) (fl_X3_delivers_44) rfl dX3_delivers_55 hR.2.1 rfl ?_
              refine zz_iload_n (pc := 58) C dX3_delivers_58 rfl ?_
              refine zz_dup2 (pc := 59) C dX3_delivers_59 rfl rfl ?_
              refine zz_mld (pc := 60) C hR 11 (by decide) rfl dX3_delivers_60 rfl (by show _ < 41; omega) ?_
              refine zz_iconst (pc := 61) C (v := 1) (by decide) dX3_delivers_61 ?_
              refine zz_iload_n (pc := 62) C dX3_delivers_62 rfl ?_
              refine zz_ishl (pc := 63) C dX3_delivers_63 ?_
              refine zz_iconst (pc := 64) C (v := -1) (by decide) dX3_delivers_64 ?_
              refine zz_ixor (pc := 65) C dX3_delivers_65 ?_
              refine zz_iand (pc := 66) C dX3_delivers_66 ?_
              refine zz_mst (pc := 67) C hR 11 (by decide) rfl dX3_delivers_67 rfl (by show _ < 41; omega) (fun G hR => ?_)
              have hag9 : zAg (zu r1 11 p9 (zClr (r1 11 p9) s0)) (zu x.1 11 p9 (zClr (x.1 11 p9) s0)) := by rw [hag 11 (by decide)]; exact zAg_zu hag
              refine zz_aload_n (pc := 68) C dX3_delivers_68 rfl ?_
              refine zz_iload_n (pc := 69) C dX3_delivers_69 rfl ?_
              refine zz_iload_n (pc := 70) C dX3_delivers_70 rfl ?_
              refine zz_callV (pc := 71) C (c_X3_takesEffect l D hR (σ := zu x.1 11 p9 (zClr (x.1 11 p9) s0)) (q := x.2) (sg := s0) hag9 ((hlv h4).ag rfl rfl rfl) hs9 (hring.ag rfl rfl rfl) (hlen h4 h5)) gX3_delivers_X3_takesEffect rfl 2 (by decide +kernel) ⟨Nat.le_of_ble_eq_true rfl, Nat.le_of_ble_eq_true rfl⟩ hR.2.1 (ci := 3) rfl rfl rfl dX3_delivers_71 rfl (Nat.le_of_ble_eq_true rfl) rfl ⟨Nat.le_of_ble_eq_true rfl, Nat.le_of_ble_eq_true rfl⟩ ?_
              rintro v G9 ⟨rfl, r2, hR, hag2, h232, hring2⟩
              have hst : zDfrom p9 x k = zDfrom p9 (zEff (zu x.1 11 p9 (zClr (x.1 11 p9) s0), x.2) p9 s0) (s0 + 1) := by
                have h9 := zDfrom_skip (p := p9) (x := x) (n := s0 - k) (k := k) (by omega) (fun s a1 a2 q9 => by
                  have := (zbit_shne (by omega)).mp q9.2.2
                  exact hmin s (by omega) ⟨by omega, this⟩)
                rw [h9, show k + (s0 - k) = s0 by omega, zDfrom_step hs9, zDstep_yes ⟨h4, h5, (zbit_shne (by omega)).mpr hs0.2⟩]
              generalize hx2 : zEff (zu x.1 11 p9 (zClr (x.1 11 p9) s0), x.2) p9 s0 = x2 at *
              refine zz_aload_n (pc := 74) C dX3_delivers_74 rfl ?_
              refine zz_get (pc := 75) C in_X3_delivers_X3 (ci := 3) rfl 11 (by decide) (fl_X3_delivers_44) rfl dX3_delivers_75 hR.2.1 rfl ?_
              refine zz_iload_n (pc := 78) C dX3_delivers_78 rfl ?_
              refine zz_mld (pc := 79) C hR 11 (by decide) rfl dX3_delivers_79 rfl (by show _ < 41; omega) ?_
              refine zz_aload_n (pc := 80) C dX3_delivers_80 rfl ?_
              refine zz_get (pc := 81) C in_X3_delivers_X3 (ci := 3) rfl 10 (by decide) (fl_X3_delivers_41) rfl dX3_delivers_81 hR.2.1 rfl ?_
              refine zz_iload_n (pc := 84) C dX3_delivers_84 rfl ?_
              refine zz_mld (pc := 85) C hR 10 (by decide) rfl dX3_delivers_85 rfl (by show _ < 41; omega) ?_
              refine zz_iconst (pc := 86) C (v := -1) (by decide) dX3_delivers_86 ?_
              refine zz_ixor (pc := 87) C dX3_delivers_87 ?_
              refine zz_iand (pc := 88) C dX3_delivers_88 ?_
              refine zz_istore_n (pc := 89) C dX3_delivers_89 (Nat.le_of_ble_eq_true rfl) ?_
              refine zz_goto (pc := 90) C (tgt := 16) dX3_delivers_90 (by decide) ?_
              have e10 : x2.1 10 = x.1 10 := by rw [← hx2]; exact zEff_0 _ _ _ 10 (by decide)
              have e00 : x2.1 0 = x.1 0 := by rw [← hx2]; exact zEff_0 _ _ _ 0 (by decide)
              have e11 : x2.1 11 p9 = zClr (x.1 11 p9) s0 ∨ x2.1 11 p9 = 0 := by
                have := zEff_pend (zu x.1 11 p9 (zClr (x.1 11 p9) s0), x.2) p9 s0
                rw [hx2, show (zu x.1 11 p9 (zClr (x.1 11 p9) s0), x.2).1 11 p9 = zClr (x.1 11 p9) s0 from (by show zu x.1 11 p9 (zClr (x.1 11 p9) s0) 11 p9 = _; exact zu_self)] at this
                exact this
              have hbits : ∀ s, s < 32 → zbit (x2.1 11 p9) s = true → zbit (x.1 11 p9) s = true ∧ s ≠ s0 := by
                intro s hs hb
                rcases e11 with e | e
                · rw [e, zbit_clr (by omega) hs, Bool.and_eq_true] at hb; exact ⟨hb.1, by simpa using hb.2⟩
                · rw [e, zbit_0] at hb; cases hb
              refine zV.less (L' := [some (.ref y), some (.int (nI p9)), some (.int (zOpen r2 p9)), none]) ⟨rfl, rfl, rfl, trivial⟩ ?_
              refine ih (9 - (s0 + 1)) (by omega) (s0 + 1) r2 x2 _ (by omega) hR hag2 (h232.trans h23) hring2 (fun h4b => ?_) (by rw [e00]; exact h00) (fun h4b h5b s hs => ?_) (zbit_small (fun s hs hb => zbit_9 h511 hs (hbits s hs hb).1)) (fun h4b h5b => ?_) (hst.symm.trans hd)
              · have hlv2 := zEff_live (zu x.1 11 p9 (zClr (x.1 11 p9) s0), x.2) p9 s0 (by rw [hx2]; exact h4b)
                rw [hx2] at hlv2
                exact (hlv h4).ag (hlv2.1 0 (by decide)) (hlv2.1 1 (by decide)) (hlv2.1 2 (by decide))
              · cases hb : zbit (zOpen x2.1 p9) s with
                | false => rfl
                | true =>
                  rw [zopen_bit (by omega), Bool.and_eq_true] at hb
                  obtain ⟨g1, g2⟩ := hbits s (by omega) hb.1
                  have g3 : zbit (zOpen x.1 p9) s = true := by rw [zopen_bit (by omega), g1, ← e10]; simpa using hb.2
                  exact absurd (⟨by omega, g3⟩ : s < 32 ∧ zbit (zOpen x.1 p9) s = true) (hmin s (by omega))
              · have hlv2 := zEff_live (zu x.1 11 p9 (zClr (x.1 11 p9) s0), x.2) p9 s0 (by rw [hx2]; exact h4b)
                rw [hx2] at hlv2
                have h9 := hlv2.2 h5b
                have h8 : x.1 5 p9 = 0 := h5
                rw [h9.1]; exact hlen h4 h5
            have k40 : ∀ (d s1 : Nat), s1 + d = s0 → zV p l e ({ frames := 4, cells := 0, slots := 0, locals := 95 } : Room) s m args below meth c D (zA G s.heap.size) 0 0 (zZ below D G (fun v G9 => v = none ∧ ∃ r2, zModR B y ma r2 G9 ∧ zAg r2 (zDel (σ, q) p9).1 ∧ r2 23 = r 23 ∧ zRing r2 (zDel (σ, q) p9).2) args s ({ frames := 4, cells := 0, slots := 0, locals := 95 } : Room)) G1 40 [some (.ref y), some (.int (nI p9)), some (.int (zOpen r1 p9)), some (.int (nI (s1)))] [] := by
              intro d
              induction d with
              | zero =>
                intro s1 hsd
                have hss : s1 = s0 := by omega
                subst hss
                refine zz_iload_n (pc := 40) C dX3_delivers_40 rfl ?_
                refine zz_iload_n (pc := 41) C dX3_delivers_41 rfl ?_
                refine zz_ishr (pc := 42) C dX3_delivers_42 ?_
                refine zz_iconst (pc := 43) C (v := 1) (by decide) dX3_delivers_43 ?_
                refine zz_iand (pc := 44) C dX3_delivers_44 ?_
                refine zz_if_ne (pc := 45) C (tgt := 54) dX3_delivers_45 (by decide) (fun hc45 => ?_) (fun hc45 => ?_)
                · exact k54
                · exact absurd (Classical.not_not.mp hc45) (fun q9 => by rw [zshr0 (by omega), zOpen_ag hag] at q9; rw [q9] at hs0; cases hs0.2)
              | succ d ihs =>
                intro s1 hsd
                have hbf : zbit (zOpen r1 p9) s1 = false := by
                  rw [zOpen_ag hag]
                  cases hb : zbit (zOpen x.1 p9) s1 with
                  | false => rfl
                  | true => exact absurd (show s1 < 32 ∧ zbit (zOpen x.1 p9) s1 = true from ⟨by omega, hb⟩) (hmin s1 (by omega))
                refine zz_iload_n (pc := 40) C dX3_delivers_40 rfl ?_
                refine zz_iload_n (pc := 41) C dX3_delivers_41 rfl ?_
                refine zz_ishr (pc := 42) C dX3_delivers_42 ?_
                refine zz_iconst (pc := 43) C (v := 1) (by decide) dX3_delivers_43 ?_
                refine zz_iand (pc := 44) C dX3_delivers_44 ?_
                refine zz_if_ne (pc := 45) C (tgt := 54) dX3_delivers_45 (by decide) (fun hc45 => ?_) (fun hc45 => ?_)
                · exact absurd ((zshr0 (by omega)).mpr hbf) hc45
                · refine zz_iinc (pc := 48) C dX3_delivers_48 rfl ?_
                  refine zz_goto (pc := 51) C (tgt := 40) dX3_delivers_51 (by decide) ?_
                  exact zV.less (L' := [some (.ref y), some (.int (nI p9)), some (.int (zOpen r1 p9)), some (.int (nI (s1 + 1)))]) ⟨rfl, rfl, rfl, zvi (z1i s1), trivial⟩ (ihs (s1 + 1) (by omega))
            exact k40 s0 0 (by omega)
  refine zz_aload_n (pc := 0) C dX3_delivers_0 rfl ?_
  refine zz_get (pc := 1) C in_X3_delivers_X3 (ci := 3) rfl 11 (by decide) (fl_X3_delivers_44) rfl dX3_delivers_1 hR.2.1 rfl ?_
  refine zz_iload_n (pc := 4) C dX3_delivers_4 rfl ?_
  refine zz_mld (pc := 5) C hR 11 (by decide) rfl dX3_delivers_5 rfl (by show _ < 41; omega) ?_
  refine zz_aload_n (pc := 6) C dX3_delivers_6 rfl ?_
  refine zz_get (pc := 7) C in_X3_delivers_X3 (ci := 3) rfl 10 (by decide) (fl_X3_delivers_41) rfl dX3_delivers_7 hR.2.1 rfl ?_
  refine zz_iload_n (pc := 10) C dX3_delivers_10 rfl ?_
  refine zz_mld (pc := 11) C hR 10 (by decide) rfl dX3_delivers_11 rfl (by show _ < 41; omega) ?_
  refine zz_iconst (pc := 12) C (v := -1) (by decide) dX3_delivers_12 ?_
  refine zz_ixor (pc := 13) C dX3_delivers_13 ?_
  refine zz_iand (pc := 14) C dX3_delivers_14 ?_
  refine zz_istore_n (pc := 15) C dX3_delivers_15 (Nat.le_of_ble_eq_true rfl) ?_
  exact kL 9 0 r (σ, q) _ rfl hR hag rfl hring hL h00 (fun _ _ s hs => absurd hs (by omega)) h511 hroom zDfrom_0
