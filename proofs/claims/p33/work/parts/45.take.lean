theorem zOwn_cont {σ : zS} {k s : Nat} : zOwn σ (zCont σ k s) k := by
  unfold zCont
  split
  · exact ((zOwn_11.put (g := 17) (by decide) (by decide) (by decide)).put (g := 5) (by decide) (by decide) (by decide))
  · split
    · exact zOwn_11
    · exact zOwn.rf
theorem zPF_cont7 {σ : zS} {k s : Nat} {f : Nat → Int32} (hf : zPF σ k f) (h4 : σ 4 k = 0) (hs : s = 7) : zPF (zCont σ k s) k (zResF (zForgF f 6)) := by
  rw [zCont_7 hs]
  have hp : f 15 = σ 11 k := hf.2.2.2.2.2.2.2.2.2.2.2.2.2.1
  have e0 : zForgF f 6 = upd f 15 (zClr (σ 11 k) 6) := by rw [← hp]; rfl
  rw [e0]
  have h6 : f 6 = σ 5 k := hf.2.2.2.2.2.1
  have h10 : f 10 = zRpt σ k := hf.2.2.2.2.2.2.2.2.1
  obtain ⟨a0, a2, a3, a4, a5, a6, a7, a8, a10, a11, a12, a13, a14, a15, a16, a17, a18, a19⟩ := hf
  unfold zResF
  rw [show upd f 15 (zClr (σ 11 k) 6) 6 = f 6 from rfl]
  by_cases h5 : f 6 ≠ 0
  · rw [if_pos h5]
    refine ⟨a0, a2, a3, a4, a5, by simp [zu, upd], a7, a8, ?_, fun z => absurd (by simp [upd]) z, a12, a13, a14, by simp [zu, upd], a16, a17, a18, a19⟩
    unfold zRpt
    simp [zu, upd, h4]
  · rw [if_neg h5]
    have h50 : σ 5 k = 0 := h6.symm.trans (Classical.not_not.mp h5)
    have h101 : f 10 = -1 := by
      rw [h10]
      unfold zRpt
      rw [if_neg (fun z => z h4), if_neg (fun z => z.1 h50)]
    refine ⟨a0, a2, a3, a4, a5, ?_, a7, a8, ?_, fun z => absurd (show upd f 15 (zClr (σ 11 k) 6) 10 = -1 from h101) z, a12, a13, a14, by simp [zu, upd], a16, a17, a18, a19⟩
    · show f 6 = zu _ 5 k 0 5 k
      rw [zu_self]
      exact Classical.not_not.mp h5
    · show f 10 = _
      rw [h101]
      unfold zRpt
      simp [zu, h4]
theorem zPF_cont56 {σ : zS} {k s : Nat} {f : Nat → Int32} (hf : zPF σ k f) (h7 : ¬ s = 7) (hs : s = 5 ∨ s = 6) : zPF (zCont σ k s) k (zForgF f 7) := by
  rw [zCont_56 h7 hs]
  have hp : f 15 = σ 11 k := hf.2.2.2.2.2.2.2.2.2.2.2.2.2.1
  have e0 : zForgF f 7 = upd f 15 (zClr (σ 11 k) 7) := by rw [← hp]; rfl
  rw [e0]
  exact zPF_11 hf
theorem zHeedF_iff {σ : zS} {k s : Nat} {f : Nat → Int32} (hs : s < 9) (ha : zActF f (nI s) = zAct σ k s) : zHeedF f (nI s) ↔ zHeed σ k s := by
  unfold zHeedF zHeed
  rw [ha]
  have e4 : nI s ≠ 4 ↔ s ≠ 4 := not_congr ⟨fun z => (nI_eq (by omega) (by decide)).mp (show nI s = nI 4 from z), fun z => by rw [z]; rfl⟩
  have e7 : nI s ≠ 7 ↔ s ≠ 7 := not_congr ⟨fun z => (nI_eq (by omega) (by decide)).mp (show nI s = nI 7 from z), fun z => by rw [z]; rfl⟩
  rw [e4, e7]
set_option maxHeartbeats 4000000 in
set_option maxRecDepth 100000 in
theorem c_X2_stopN (l : Launch) (D : va_G) {B G : zG} {x tb ev : Nat} {A : Nat → Nat} {σ : zS} {q : List zEv} {h m0 : Nat} {k : Nat} {s8 : Int32} {t9 : Nat} (hC : zCl B x tb ev A σ q h m0 G) (hk : k < 41) (h0 : σ 0 k ≠ 0) (h5 : σ 5 k ≠ 0) : zMet D l yX2_stop wsX2_stop (zRmA 4 104 m0 t9) [.ref x, .ref (A k), .int s8] G (fun v G9 => v = none ∧ G9 = G) := by
  refine zMet_of (cc := cX2_stop) (maxL := 3) (ret := none) (by decide) rfl (Nat.le_of_ble_eq_true rfl) ?_
  intro p e s m args below meth c C hmn
  obtain ⟨f, hGa, hPF, hup⟩ := hC.at hk h0
  refine zz_aload_n (pc := 0) C dX2_stop_0 rfl ?_
  refine zz_get (pc := 1) C in_X2_stop_X1 (ci := 1) rfl 6 (by decide) (fl_X2_stop_191) rfl dX2_stop_1 hGa rfl ?_
  refine zz_if_ne (pc := 4) C (tgt := 35) dX2_stop_4 (by decide) (fun hc4 => ?_) (fun hc4 => ?_)
  · exact zz_return (pc := 35) C dX2_stop_35 (Nat.zero_le _) (Nat.zero_le _) ⟨rfl, rfl⟩
  · exact absurd (hPF.2.2.2.2.2.1.symm.trans (Classical.not_not.mp hc4)) h5
theorem c_clStopB (l : Launch) (D : va_G) {B G : zG} {x tb ev : Nat} {A : Nat → Nat} {σ : zS} {q : List zEv} {h m0 : Nat} {k s9 : Nat} {s8 : Int32} {Y : zS × List zEv} (hC : zCl B x tb ev A σ q h m0 G) (hk : k < 41) (h0 : σ 0 k ≠ 0) (h4 : σ 4 k = 0) (hY : Y = if σ 5 k = 0 then zStop (σ, q) k s9 else (σ, q)) (ht : h + Y.2.length ≤ 16384) (hs : s8 = nI s9) : zMet D l yX2_stop wsX2_stop (zRmA 4 104 m0 (h + Y.2.length)) [.ref x, .ref (A k), .int s8] G (fun v G9 => v = none ∧ zCl B x tb ev A Y.1 Y.2 h (max m0 (h + Y.2.length)) G9) := by
  by_cases h5 : σ 5 k = 0
  · rw [if_pos h5] at hY
    refine (c_clStop2 l D (q2 := Y.2) hC hk h0 h4 h5 (by rw [hY, zStop_2]) ht hs).imp ?_
    rintro v G9 ⟨rfl, h9⟩
    refine ⟨rfl, ?_⟩
    rw [show Y.1 = (zStop (σ, q) k s9).1 by rw [hY]]
    exact h9
  · rw [if_neg h5] at hY
    refine (c_X2_stopN l D hC hk h0 h5).imp ?_
    rintro v G9 ⟨rfl, rfl⟩
    refine ⟨rfl, ?_⟩
    rw [hY]
    exact zCl_max hC
theorem fl_X2_takeSignal_154 : Cond.fieldLink RX2 154 "Signalpost$Proc" "pending" "I" ∈ wsX2_takeSignal := by decide +kernel
theorem in_X2_takeSignal_X1 : ∀ w ∈ u_ws RX1 TX1 20, w ∈ wsX2_takeSignal := by decide +kernel
set_option maxHeartbeats 16000000 in
set_option maxRecDepth 100000 in
theorem c_X2_takeSignal (l : Launch) (D : va_G) {B G : zG} {x tb ev : Nat} {A : Nat → Nat} {σ : zS} {q : List zEv} {h m0 : Nat} {p9 s9 : Nat} {q2 : List zEv} (hC : zCl B x tb ev A σ q h m0 G) (hW : zWf σ) (hp0 : σ 0 p9 ≠ 0) (hp1 : p9 ≠ 1) (h4 : σ 4 p9 = 0) (hs : s9 < 9) (hq : q2 = (zComes (σ, q) p9 s9).2) (ht : h + q2.length ≤ 16384) : zMet D l yX2_takeSignal wsX2_takeSignal (zRmA 7 184 m0 (h + q2.length)) [.ref x, .ref (A p9), .int (nI s9)] G (fun v G9 => v = none ∧ zCl B x tb ev A (zComes (σ, q) p9 s9).1 q2 h (max m0 (h + q2.length)) G9) := by
  have hpin := hW.in hp0
  obtain ⟨C1, hC1⟩ : ∃ C1 : zS, C1 = zCont σ p9 s9 := ⟨_, rfl⟩
  obtain ⟨Y, hY⟩ : ∃ Y : zS × List zEv, Y = zTake (C1, q) p9 s9 := ⟨_, rfl⟩
  have hY2 : zComes (σ, q) p9 s9 = zDel Y p9 := by rw [hY, hC1]; exact zComes_yes (fun z => z.elim hp0 (fun u => u.elim (fun y => y h4) hp1))
  rw [hY2] at hq ⊢
  have h0C : C1 0 p9 ≠ 0 := by rw [hC1, zCont_off (by decide)]; exact hp0
  have h4C : C1 4 p9 = 0 := by rw [hC1, zCont_off (by decide)]; exact h4
  have hWC : zWf C1 := by rw [hC1]; exact hW.cont
  have hsY := zSt.take (x := (C1, q)) (p := p9) (s := s9) hWC h0C hp1 h4C hs
  rw [← hY] at hsY
  have hWY : zWf Y.1 := hsY.1
  have h0Y : Y.1 0 p9 ≠ 0 := by rw [hY, zTake_0 (Or.inl rfl)]; exact h0C
  have h0YT : h + q.length ≤ h + Y.2.length := by
    obtain ⟨_, _, q', h9, _⟩ := hsY
    rw [h9, List.length_append]
    show h + q.length ≤ h + (q.length + q'.length)
    omega
  have hYT : h + Y.2.length ≤ h + q2.length := by
    obtain ⟨_, _, q', h9, _⟩ := zSt.del (x := Y) (p := p9) hWY h0Y hp1
    rw [hq, h9, List.length_append]
    omega
  have h0T : h + q.length ≤ h + q2.length := Nat.le_trans h0YT hYT
  have hqd : q2 = (zDel (Y.1, Y.2) p9).2 := hq
  refine zMet_of (cc := cX2_takeSignal) (maxL := 3) (ret := none) (by decide) rfl (Nat.le_of_ble_eq_true rfl) ?_
  intro p e s m args below meth c C hmn
  have fin : ∀ (G1 : zG), zCl B x tb ev A Y.1 Y.2 h (max m0 (h + Y.2.length)) G1 → zV p l e (zRmA 7 184 m0 (h + q2.length)) s m args below meth c D (zA G s.heap.size) (zW m0 (h + Y.2.length)) (4 * zW m0 (h + Y.2.length)) (zZ below D G (fun v G9 => v = none ∧ zCl B x tb ev A (zDel Y p9).1 q2 h (max m0 (h + q2.length)) G9) args s (zRmA 7 184 m0 (h + q2.length))) G1 85 [some (.ref x), some (.ref (A p9)), some (.int (nI s9))] [] := by
    intro G1 hC
    refine zz_aload_n (pc := 85) C dX2_takeSignal_85 rfl ?_
    refine zz_aload_n (pc := 86) C dX2_takeSignal_86 rfl ?_
    refine zz_callV (pc := 87) C (c_X2_deliver l D (p9 := p9) (q2 := q2) hC hWY h0Y hp1 hqd ht) gX2_takeSignal_X2_deliver rfl 1 (by decide +kernel) ⟨Nat.le_of_ble_eq_true rfl, Nat.le_of_ble_eq_true rfl⟩ hC.x (ci := 2) rfl rfl rfl dX2_takeSignal_87 rfl (Nat.le_of_ble_eq_true rfl) rfl (zRm_ok (a := h + Y.2.length) (b := h + q2.length) hYT (Nat.le_refl _)) ?_
    rintro v G9 ⟨rfl, hC⟩
    rw [zmax hYT] at hC
    refine zV.widen (k := zW m0 (h + q2.length)) (n := 4 * zW m0 (h + q2.length)) (zRm_eq hYT).1 (zRm_eq hYT).2 ?_
    exact zz_return (pc := 90) C dX2_takeSignal_90 (zRm_end (Nat.le_refl _)).1 (zRm_end (Nat.le_refl _)).2 ⟨rfl, hC⟩
  have mid : ∀ (G1 : zG), zCl B x tb ev A C1 q h (max m0 (h + q.length)) G1 → zV p l e (zRmA 7 184 m0 (h + q2.length)) s m args below meth c D (zA G s.heap.size) (zW m0 (h + q.length)) (4 * zW m0 (h + q.length)) (zZ below D G (fun v G9 => v = none ∧ zCl B x tb ev A (zDel Y p9).1 q2 h (max m0 (h + q2.length)) G9) args s (zRmA 7 184 m0 (h + q2.length))) G1 36 [some (.ref x), some (.ref (A p9)), some (.int (nI s9))] [] := by
    intro G1 hC
    obtain ⟨f, hGa, hPF, hup⟩ := hC.at (k := p9) hpin.2 h0C
    refine zz_iload_n (pc := 36) C dX2_takeSignal_36 rfl ?_
    refine zz_iconst (pc := 37) C (v := 2) (by decide) dX2_takeSignal_37 ?_
    refine zz_icmp_ne (pc := 38) C (tgt := 51) dX2_takeSignal_38 (by decide) (fun hc38 => ?_) (fun hc38 => ?_)
    · refine zz_iload_n (pc := 51) C dX2_takeSignal_51 rfl ?_
      refine zz_iconst (pc := 52) C (v := 5) (by decide) dX2_takeSignal_52 ?_
      refine zz_icmp_ne (pc := 53) C (tgt := 65) dX2_takeSignal_53 (by decide) (fun hc53 => ?_) (fun hc53 => ?_)
      · refine zz_aload_n (pc := 65) C dX2_takeSignal_65 rfl ?_
        refine zz_iload_n (pc := 66) C dX2_takeSignal_66 rfl ?_
        refine zz_callV (pc := 67) C (c_X1_heeds l D (x := nI s9) hGa) gX2_takeSignal_X1_heeds rfl 1 (by decide +kernel) ⟨Nat.le_of_ble_eq_true rfl, Nat.le_of_ble_eq_true rfl⟩ hGa (ci := 1) rfl rfl rfl dX2_takeSignal_67 rfl (Nat.le_of_ble_eq_true rfl) rfl (zRm_0 (a := h + q.length) h0T) ?_
        rintro v G9 ⟨rfl, rfl⟩
        have hhe := zHeedF_iff (σ := C1) (k := p9) hs (zActF_eq hPF (hWC.act h0C hs) hs)
        have hn2 : ¬ s9 = 2 := fun z => hc38 (by rw [z]; rfl)
        have hn5 : ¬ s9 = 5 := fun z => hc53 (by rw [z]; rfl)
        refine zV.wid0 ?_
        refine zz_if_eq (pc := 70) C (tgt := 85) dX2_takeSignal_70 (by decide) (fun hc70 => ?_) (fun hc70 => ?_)
        · have hYe : Y = (C1, q) := by rw [hY, zTake_n hn2 hn5 (fun z => zb_eq.mp hc70 (hhe.mpr z))]
          rw [show C1 = Y.1 from by rw [hYe], show q = Y.2 from by rw [hYe]] at hC
          refine zV.widen (k := zW m0 (h + Y.2.length)) (n := 4 * zW m0 (h + Y.2.length)) (zW_mono h0YT) (Nat.mul_le_mul_left 4 (zW_mono h0YT)) ?_
          exact fin _ hC
        · refine zz_aload_n (pc := 73) C dX2_takeSignal_73 rfl ?_
          refine zz_dup (pc := 74) C dX2_takeSignal_74 rfl ?_
          refine zz_get (pc := 75) C in_X2_takeSignal_X1 (ci := 1) rfl 15 (by decide) (fl_X2_takeSignal_154) rfl dX2_takeSignal_75 hGa rfl ?_
          refine zz_iconst (pc := 78) C (v := 1) (by decide) dX2_takeSignal_78 ?_
          refine zz_iload_n (pc := 79) C dX2_takeSignal_79 rfl ?_
          refine zz_ishl (pc := 80) C dX2_takeSignal_80 ?_
          refine zz_ior (pc := 81) C dX2_takeSignal_81 ?_
          refine zV.eqG (zU_id hGa).symm ?_
          refine zz_pput (pc := 82) C in_X2_takeSignal_X1 15 (by decide) (by decide) (by decide) fl_X2_takeSignal_154 dX2_takeSignal_82 rfl rfl ?_
          have hYe : Y = (zu C1 11 p9 (f 15 ||| zSh s9), q) := by rw [hY, zTake_p hn2 hn5 (hhe.mp (zbp hc70)), hPF.2.2.2.2.2.2.2.2.2.2.2.2.2.1]
          have hC := hup _ _ (zOwn_11 (v := f 15 ||| zSh s9)) (zPF_11 hPF)
          rw [show zu C1 11 p9 (f 15 ||| zSh s9) = Y.1 from by rw [hYe], show q = Y.2 from by rw [hYe]] at hC
          refine zV.widen (k := zW m0 (h + Y.2.length)) (n := 4 * zW m0 (h + Y.2.length)) (zW_mono h0YT) (Nat.mul_le_mul_left 4 (zW_mono h0YT)) ?_
          exact fin _ hC
      · refine zz_aload_n (pc := 56) C dX2_takeSignal_56 rfl ?_
        refine zz_aload_n (pc := 57) C dX2_takeSignal_57 rfl ?_
        refine zz_iconst (pc := 58) C (v := 5) (by decide) dX2_takeSignal_58 ?_
        have hs5 := (nI_eq (by omega) (by decide)).mp (show nI s9 = nI 5 from Classical.not_not.mp hc53)
        have hYe : Y = if C1 5 p9 = 0 then zStop (C1, q) p9 5 else (C1, q) := by
          by_cases h5 : C1 5 p9 = 0
          · rw [if_pos h5, hY, zTake_5s hs5 h5]
          · rw [if_neg h5, hY, zTake_5 hs5 h5]
        refine zz_callV (pc := 59) C (c_clStopB l D (k := p9) (s9 := 5) (Y := Y) hC hpin.2 h0C h4C hYe (Nat.le_trans hYT ht) (by decide)) gX2_takeSignal_X2_stop rfl 2 (by decide +kernel) ⟨Nat.le_of_ble_eq_true rfl, Nat.le_of_ble_eq_true rfl⟩ hC.x (ci := 2) rfl rfl rfl dX2_takeSignal_59 rfl (Nat.le_of_ble_eq_true rfl) rfl (zRm_ok (a := h + q.length) (b := h + Y.2.length) h0YT hYT) ?_
        rintro v G9 ⟨rfl, hC⟩
        rw [zmax h0YT] at hC
        refine zV.widen (k := zW m0 (h + Y.2.length)) (n := 4 * zW m0 (h + Y.2.length)) (zRm_eq h0YT).1 (zRm_eq h0YT).2 ?_
        refine zz_goto (pc := 62) C (tgt := 85) dX2_takeSignal_62 (by decide) ?_
        exact fin _ hC
    · refine zz_aload_n (pc := 41) C dX2_takeSignal_41 rfl ?_
      refine zz_aload_n (pc := 42) C dX2_takeSignal_42 rfl ?_
      refine zz_iconst (pc := 43) C (v := 1) (by decide) dX2_takeSignal_43 ?_
      refine zz_iconst (pc := 44) C (v := 2) (by decide) dX2_takeSignal_44 ?_
      have hYe := zTake_2 (x := (C1, q)) (p := p9) (s := s9) ((nI_eq (by omega) (by decide)).mp (show nI s9 = nI 2 from Classical.not_not.mp hc38))
      rw [← hY] at hYe
      refine zz_callV (pc := 45) C (c_X2_terminate l D (p9 := p9) (how := 1) (w9 := 2) (q2 := Y.2) hC hWC h0C hp1 (Or.inr rfl) (by rw [hYe, zTerm_2]) (Nat.le_trans hYT ht)) gX2_takeSignal_X2_terminate rfl 3 (by decide +kernel) ⟨Nat.le_of_ble_eq_true rfl, Nat.le_of_ble_eq_true rfl⟩ hC.x (ci := 2) rfl rfl rfl dX2_takeSignal_45 rfl (Nat.le_of_ble_eq_true rfl) rfl (zRm_ok (a := h + q.length) (b := h + Y.2.length) h0YT hYT) ?_
      rintro v G9 ⟨rfl, hC⟩
      rw [zmax h0YT] at hC
      refine zV.widen (k := zW m0 (h + Y.2.length)) (n := 4 * zW m0 (h + Y.2.length)) (zRm_eq h0YT).1 (zRm_eq h0YT).2 ?_
      rw [show zT3 C1 p9 1 2 = Y.1 from by rw [hYe, zTerm_1]] at hC
      refine zz_goto (pc := 48) C (tgt := 85) dX2_takeSignal_48 (by decide) ?_
      exact fin _ hC
  have hC := zCl_max hC
  refine zV.widen (k := zW m0 (h + q.length)) (n := 4 * zW m0 (h + q.length)) (Nat.zero_le _) (Nat.zero_le _) ?_
  obtain ⟨f, hGa, hPF, hup⟩ := hC.at hpin.2 hp0
  refine zz_iload_n (pc := 0) C dX2_takeSignal_0 rfl ?_
  refine zz_bipush (pc := 1) C (v := 7) (by decide) dX2_takeSignal_1 ?_
  refine zz_icmp_ne (pc := 3) C (tgt := 19) dX2_takeSignal_3 (by decide) (fun hc3 => ?_) (fun hc3 => ?_)
  · refine zz_iload_n (pc := 19) C dX2_takeSignal_19 rfl ?_
    refine zz_iconst (pc := 20) C (v := 5) (by decide) dX2_takeSignal_20 ?_
    refine zz_icmp_eq (pc := 21) C (tgt := 30) dX2_takeSignal_21 (by decide) (fun hc21 => ?_) (fun hc21 => ?_)
    · have h56 : s9 = 5 ∨ s9 = 6 := by first | exact Or.inl ((nI_eq (by omega) (by decide)).mp (show nI s9 = nI 5 from hc21)) | exact Or.inr ((nI_eq (by omega) (by decide)).mp (show nI s9 = nI 6 from Classical.not_not.mp hc27))
      refine zz_aload_n (pc := 30) C dX2_takeSignal_30 rfl ?_
      refine zz_bipush (pc := 31) C (v := 7) (by decide) dX2_takeSignal_31 ?_
      refine zz_callV (pc := 33) C (c_X1_forget l D hGa) gX2_takeSignal_X1_forget rfl 1 (by decide +kernel) ⟨Nat.le_of_ble_eq_true rfl, Nat.le_of_ble_eq_true rfl⟩ hGa (ci := 1) rfl rfl rfl dX2_takeSignal_33 rfl (Nat.le_of_ble_eq_true rfl) rfl (zRm_0 (a := h + q.length) h0T) ?_
      rintro v G9 ⟨rfl, rfl⟩
      have hC := hup _ _ (zOwn_cont (s := s9)) (zPF_cont56 hPF (fun z => hc3 (by rw [z]; rfl)) h56)
      rw [← hC1] at hC
      refine zV.wid0 ?_
      exact mid _ hC
    · refine zz_iload_n (pc := 24) C dX2_takeSignal_24 rfl ?_
      refine zz_bipush (pc := 25) C (v := 6) (by decide) dX2_takeSignal_25 ?_
      refine zz_icmp_ne (pc := 27) C (tgt := 36) dX2_takeSignal_27 (by decide) (fun hc27 => ?_) (fun hc27 => ?_)
      · rw [show σ = C1 from by rw [hC1, zCont_o (fun z => hc3 (by rw [z]; rfl)) (fun z => z.elim (fun u => hc21 (by rw [u]; rfl)) (fun u => hc27 (by rw [u]; rfl)))]] at hC
        exact mid _ hC
      · have h56 : s9 = 5 ∨ s9 = 6 := by first | exact Or.inl ((nI_eq (by omega) (by decide)).mp (show nI s9 = nI 5 from hc21)) | exact Or.inr ((nI_eq (by omega) (by decide)).mp (show nI s9 = nI 6 from Classical.not_not.mp hc27))
        refine zz_aload_n (pc := 30) C dX2_takeSignal_30 rfl ?_
        refine zz_bipush (pc := 31) C (v := 7) (by decide) dX2_takeSignal_31 ?_
        refine zz_callV (pc := 33) C (c_X1_forget l D hGa) gX2_takeSignal_X1_forget rfl 1 (by decide +kernel) ⟨Nat.le_of_ble_eq_true rfl, Nat.le_of_ble_eq_true rfl⟩ hGa (ci := 1) rfl rfl rfl dX2_takeSignal_33 rfl (Nat.le_of_ble_eq_true rfl) rfl (zRm_0 (a := h + q.length) h0T) ?_
        rintro v G9 ⟨rfl, rfl⟩
        have hC := hup _ _ (zOwn_cont (s := s9)) (zPF_cont56 hPF (fun z => hc3 (by rw [z]; rfl)) h56)
        rw [← hC1] at hC
        refine zV.wid0 ?_
        exact mid _ hC
  · refine zz_aload_n (pc := 6) C dX2_takeSignal_6 rfl ?_
    refine zz_bipush (pc := 7) C (v := 6) (by decide) dX2_takeSignal_7 ?_
    refine zz_callV (pc := 9) C (c_X1_forget l D hGa) gX2_takeSignal_X1_forget rfl 1 (by decide +kernel) ⟨Nat.le_of_ble_eq_true rfl, Nat.le_of_ble_eq_true rfl⟩ hGa (ci := 1) rfl rfl rfl dX2_takeSignal_9 rfl (Nat.le_of_ble_eq_true rfl) rfl (zRm_0 (a := h + q.length) h0T) ?_
    rintro v G9 ⟨rfl, rfl⟩
    refine zV.wid0 ?_
    refine zz_aload_n (pc := 12) C dX2_takeSignal_12 rfl ?_
    refine zz_callV (pc := 13) C (c_X1_resume l D (zU_self (a := A p9))) gX2_takeSignal_X1_resume rfl 0 (by decide +kernel) ⟨Nat.le_of_ble_eq_true rfl, Nat.le_of_ble_eq_true rfl⟩ zU_self (ci := 1) rfl rfl rfl dX2_takeSignal_13 rfl (Nat.le_of_ble_eq_true rfl) rfl (zRm_0 (a := h + q.length) h0T) ?_
    rintro v G9 ⟨rfl, rfl⟩
    rw [zU_zU]
    have hC := hup _ _ (zOwn_cont (s := s9)) (zPF_cont7 hPF h4 ((nI_eq (by omega) (by decide)).mp (show nI s9 = nI 7 from Classical.not_not.mp hc3)))
    rw [← hC1] at hC
    refine zV.wid0 ?_
    refine zz_goto (pc := 16) C (tgt := 36) dX2_takeSignal_16 (by decide) ?_
    exact mid _ hC
