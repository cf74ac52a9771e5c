theorem zCheck_stay {σ : zS} {j : Nat} (h : zWf σ) (h0 : σ 0 j ≠ 0) : (zCheck σ j) 0 j ≠ 0 := by
  rcases zCheck_cases σ j with e | e | ⟨k, hk, hr, h4, e⟩ | ⟨k, hk, hr, h4, e⟩ <;> rw [e]
  · exact h0
  · exact h0
  · rw [zu_iff, if_neg (fun z => ?_)]
    · exact h0
    · have h1 := hr.1.2.1
      rw [← z] at h1
      by_cases hj1 : j = 1
      · rw [hj1, h.x.2.1] at h1
        exact znm1 (by decide) h1.symm
      · obtain ⟨i, a, b, c, d, _⟩ := h.par h0 hj1
        have hj := (h.in h0).2
        exact d ((nI_eq (by omega) (by omega)).mp (a.symm.trans h1))
  · exact h0
theorem c_clTell2 (l : Launch) (D : va_G) {B G : zG} {x tb ev : Nat} {A : Nat → Nat} {σ : zS} {q : List zEv} {h m0 : Nat} {p9 : Nat} {Y : zS × List zEv} (hC : zCl B x tb ev A σ q h m0 G) (hW : zWf σ) (hp0 : σ 0 p9 ≠ 0) (hY : Y = zTell (σ, q) p9) (ht : h + Y.2.length ≤ 16384) : zMet D l yX2_tellParent wsX2_tellParent (zRmA 4 104 m0 (h + Y.2.length)) [.ref x, .ref (A p9)] G (fun v G9 => v = none ∧ zCl B x tb ev A Y.1 Y.2 h (max m0 (h + Y.2.length)) G9) := by
  subst hY
  exact c_X2_tellParent l D hC hW.has hW.wt (hW.in hp0).2 hp0 (zCheck_stay hW hp0) (fun h1 => by
    rw [zTell_n h1] at ht
    have e : (q ++ [(4, p9)]).length = q.length + 1 := by simp
    have ht2 : h + (q ++ [(4, p9)]).length ≤ 16384 := ht
    omega)
theorem fl_X2_noticeEnd_147 : Cond.fieldLink RX2 147 "Signalpost$Proc" "parent" "LSignalpost$Proc;" ∈ wsX2_noticeEnd := by decide +kernel
theorem fl_X2_noticeEnd_151 : Cond.fieldLink RX2 151 "Signalpost$Proc" "pid" "I" ∈ wsX2_noticeEnd := by decide +kernel
theorem in_X2_noticeEnd_X1 : ∀ w ∈ u_ws RX1 TX1 20, w ∈ wsX2_noticeEnd := by decide +kernel
set_option maxHeartbeats 16000000 in
set_option maxRecDepth 100000 in
theorem c_X2_noticeEnd (l : Launch) (D : va_G) {B G : zG} {x tb ev : Nat} {A : Nat → Nat} {σ : zS} {q : List zEv} {h m0 : Nat} {p9 : Nat} {Y : zS × List zEv} (hC : zCl B x tb ev A σ q h m0 G) (hW : zWf σ) (hp0 : σ 0 p9 ≠ 0) (h4 : σ 4 p9 ≠ 0) (hY : Y = zOver (σ, q) p9) (ht : h + Y.2.length ≤ 16384) : zMet D l yX2_noticeEnd wsX2_noticeEnd (zRmA 5 125 m0 (h + Y.2.length)) [.ref x, .ref (A p9)] G (fun v G9 => v = none ∧ zCl B x tb ev A Y.1 Y.2 h (max m0 (h + Y.2.length)) G9) := by
  have hp1 := hW.z1 h4
  have hpin := hW.in hp0
  obtain ⟨j, hj, hj1, hj2, hj3, hj4, hj5⟩ := hW.par hp0 hp1
  have hpn : pn (σ 1 p9) = j := by rw [hj]; exact nI_clamp (by omega)
  obtain ⟨S1, hS1⟩ : ∃ S1 : zS, S1 = if j = 1 ∨ zAct σ j 4 = 1 then zu σ 0 p9 0 else σ := ⟨_, rfl⟩
  have hYe : Y = zTell (S1, q) j := by rw [hY, hS1]; exact zOver_yes hp0 hpn
  have hWS : zWf S1 := by
    rw [hS1]
    split
    · exact hW.gone h4
    · exact hW
  have h0S : S1 0 j ≠ 0 := by
    rw [hS1]
    split
    · rw [zu_iff, if_neg hj3]
      exact hj4
    · exact hj4
  have h0Y : h + q.length ≤ h + Y.2.length := by
    obtain ⟨_, _, q', h9, _⟩ := zSt.tell (x := (S1, q)) hWS ⟨hj1, hj2⟩
    rw [hYe, h9, List.length_append]
    show h + q.length ≤ h + (q.length + q'.length)
    omega
  refine zMet_of (cc := cX2_noticeEnd) (maxL := 3) (ret := none) (by decide) rfl (Nat.le_of_ble_eq_true rfl) ?_
  intro p e s m args below meth c C hmn
  have fin : ∀ (G1 : zG), zCl B x tb ev A S1 q h (max m0 (h + q.length)) G1 → zV p l e (zRmA 5 125 m0 (h + Y.2.length)) s m args below meth c D (zA G s.heap.size) (zW m0 (h + q.length)) (4 * zW m0 (h + q.length)) (zZ below D G (fun v G9 => v = none ∧ zCl B x tb ev A Y.1 Y.2 h (max m0 (h + Y.2.length)) G9) args s (zRmA 5 125 m0 (h + Y.2.length))) G1 32 [some (.ref x), some (.ref (A p9)), some (.ref (A j))] [] := by
    intro G1 hC
    refine zz_aload_n (pc := 32) C dX2_noticeEnd_32 rfl ?_
    refine zz_aload_n (pc := 33) C dX2_noticeEnd_33 rfl ?_
    refine zz_callV (pc := 34) C (c_clTell2 l D (p9 := j) hC hWS h0S hYe ht) gX2_noticeEnd_X2_tellParent rfl 1 (by decide +kernel) ⟨Nat.le_of_ble_eq_true rfl, Nat.le_of_ble_eq_true rfl⟩ hC.x (ci := 2) rfl rfl rfl dX2_noticeEnd_34 rfl (Nat.le_of_ble_eq_true rfl) rfl (zRm_ok (a := h + q.length) (b := h + Y.2.length) h0Y (Nat.le_refl _)) ?_
    rintro v G9 ⟨rfl, hC⟩
    rw [zmax h0Y] at hC
    refine zV.widen (k := zW m0 (h + Y.2.length)) (n := 4 * zW m0 (h + Y.2.length)) (zRm_eq h0Y).1 (zRm_eq h0Y).2 ?_
    exact zz_return (pc := 37) C dX2_noticeEnd_37 (zRm_end (Nat.le_refl _)).1 (zRm_end (Nat.le_refl _)).2 ⟨rfl, hC⟩
  have hC := zCl_max hC
  refine zV.widen (k := zW m0 (h + q.length)) (n := 4 * zW m0 (h + q.length)) (Nat.zero_le _) (Nat.zero_le _) ?_
  obtain ⟨f, hGa, hPF, hup⟩ := hC.at hpin.2 hp0
  rw [zPar_n hp1 hj hj2 (zTA_y hj4)] at hGa
  obtain ⟨g, hGj, hPj, _⟩ := hC.at hj2 hj4
  refine zz_aload_n (pc := 0) C dX2_noticeEnd_0 rfl ?_
  refine zz_get (pc := 1) C in_X2_noticeEnd_X1 (ci := 1) rfl 1 (by decide) (fl_X2_noticeEnd_147) rfl dX2_noticeEnd_1 hGa rfl ?_
  refine zz_astore_n (pc := 4) C dX2_noticeEnd_4 (Nat.le_of_ble_eq_true rfl) ?_
  refine zz_aload_n (pc := 5) C dX2_noticeEnd_5 rfl ?_
  refine zz_ifnonnull (pc := 6) C (tgt := 10) dX2_noticeEnd_6 (by decide) ?_
  refine zz_aload_n (pc := 10) C dX2_noticeEnd_10 rfl ?_
  refine zz_get (pc := 11) C in_X2_noticeEnd_X1 (ci := 1) rfl 0 (by decide) (fl_X2_noticeEnd_151) rfl dX2_noticeEnd_11 hGj rfl ?_
  refine zz_iconst (pc := 14) C (v := 1) (by decide) dX2_noticeEnd_14 ?_
  refine zz_icmp_eq (pc := 15) C (tgt := 27) dX2_noticeEnd_15 (by decide) (fun hc15 => ?_) (fun hc15 => ?_)
  · refine zz_aload_n (pc := 27) C dX2_noticeEnd_27 rfl ?_
    refine zz_aload_n (pc := 28) C dX2_noticeEnd_28 rfl ?_
    refine zz_callV (pc := 29) C (c_clRemove l D (k := p9) hC hpin hp0 (fun i hi hip hi0 hi1 => hW.wt.2 p9 hpin.2 hp0 h4 i hi hip hi0 hi1)) gX2_noticeEnd_X2_remove rfl 1 (by decide +kernel) ⟨Nat.le_of_ble_eq_true rfl, Nat.le_of_ble_eq_true rfl⟩ hC.x (ci := 2) rfl rfl rfl dX2_noticeEnd_29 rfl (Nat.le_of_ble_eq_true rfl) rfl (zRm_0 (a := h + q.length) h0Y) ?_
    rintro v G9 ⟨rfl, hC⟩
    refine zV.wid0 ?_
    rw [show zu σ 0 p9 0 = S1 from by rw [hS1, if_pos (Or.inl ((nI_eq (by omega) (by decide)).mp (show nI j = nI 1 from hPj.1.symm.trans hc15)))]] at hC
    exact fin _ hC
  · refine zz_aload_n (pc := 18) C dX2_noticeEnd_18 rfl ?_
    refine zz_iconst (pc := 19) C (v := 4) (by decide) dX2_noticeEnd_19 ?_
    refine zz_callV (pc := 20) C (c_X1_actionFor l D (x := 4) hGj) gX2_noticeEnd_X1_actionFor rfl 1 (by decide +kernel) ⟨Nat.le_of_ble_eq_true rfl, Nat.le_of_ble_eq_true rfl⟩ hGj (ci := 1) rfl rfl rfl dX2_noticeEnd_20 rfl (Nat.le_of_ble_eq_true rfl) rfl (zRm_0 (a := h + q.length) h0Y) ?_
    rintro v G9 ⟨rfl, rfl⟩
    have hact : zActF g 4 = zAct σ j 4 := zActF_eq (s := 4) hPj (hW.act hj4 (by decide)) (by decide)
    refine zV.wid0 ?_
    refine zz_iconst (pc := 23) C (v := 1) (by decide) dX2_noticeEnd_23 ?_
    refine zz_icmp_ne (pc := 24) C (tgt := 32) dX2_noticeEnd_24 (by decide) (fun hc24 => ?_) (fun hc24 => ?_)
    · rw [show σ = S1 from by rw [hS1, if_neg (fun z => z.elim (fun u => hc15 (hPj.1.trans (by rw [u]; rfl))) (fun u => hc24 (hact.trans u)))]] at hC
      exact fin _ hC
    · refine zz_aload_n (pc := 27) C dX2_noticeEnd_27 rfl ?_
      refine zz_aload_n (pc := 28) C dX2_noticeEnd_28 rfl ?_
      refine zz_callV (pc := 29) C (c_clRemove l D (k := p9) hC hpin hp0 (fun i hi hip hi0 hi1 => hW.wt.2 p9 hpin.2 hp0 h4 i hi hip hi0 hi1)) gX2_noticeEnd_X2_remove rfl 1 (by decide +kernel) ⟨Nat.le_of_ble_eq_true rfl, Nat.le_of_ble_eq_true rfl⟩ hC.x (ci := 2) rfl rfl rfl dX2_noticeEnd_29 rfl (Nat.le_of_ble_eq_true rfl) rfl (zRm_0 (a := h + q.length) h0Y) ?_
      rintro v G9 ⟨rfl, hC⟩
      refine zV.wid0 ?_
      rw [show zu σ 0 p9 0 = S1 from by rw [hS1, if_pos (Or.inr (hact.symm.trans (Classical.not_not.mp hc24)))]] at hC
      exact fin _ hC
theorem fl_X2_noticeStop_147 : Cond.fieldLink RX2 147 "Signalpost$Proc" "parent" "LSignalpost$Proc;" ∈ wsX2_noticeStop := by decide +kernel
theorem fl_X2_noticeStop_191 : Cond.fieldLink RX2 191 "Signalpost$Proc" "stopped" "Z" ∈ wsX2_noticeStop := by decide +kernel
theorem in_X2_noticeStop_X1 : ∀ w ∈ u_ws RX1 TX1 20, w ∈ wsX2_noticeStop := by decide +kernel
set_option maxHeartbeats 16000000 in
set_option maxRecDepth 100000 in
theorem c_X2_noticeStop (l : Launch) (D : va_G) {B G : zG} {x tb ev : Nat} {A : Nat → Nat} {σ : zS} {q : List zEv} {h m0 : Nat} {p9 : Nat} {Y : zS × List zEv} (hC : zCl B x tb ev A σ q h m0 G) (hW : zWf σ) (hp0 : σ 0 p9 ≠ 0) (hp1 : p9 ≠ 1) (hY : Y = zStands (σ, q) p9) (ht : h + Y.2.length ≤ 16384) : zMet D l yX2_noticeStop wsX2_noticeStop (zRmA 5 125 m0 (h + Y.2.length)) [.ref x, .ref (A p9)] G (fun v G9 => v = none ∧ zCl B x tb ev A Y.1 Y.2 h (max m0 (h + Y.2.length)) G9) := by
  have hpin := hW.in hp0
  obtain ⟨j, hj, hj1, hj2, hj3, hj4, hj5⟩ := hW.par hp0 hp1
  have hpn : pn (σ 1 p9) = j := by rw [hj]; exact nI_clamp (by omega)
  have h0Y : h + q.length ≤ h + Y.2.length := by
    obtain ⟨_, _, q', h9, _⟩ := zSt.stands (x := (σ, q)) hW hp1
    rw [hY, h9, List.length_append]
    show h + q.length ≤ h + (q.length + q'.length)
    omega
  refine zMet_of (cc := cX2_noticeStop) (maxL := 3) (ret := none) (by decide) rfl (Nat.le_of_ble_eq_true rfl) ?_
  intro p e s m args below meth c C hmn
  have hC := zCl_max hC
  refine zV.widen (k := zW m0 (h + q.length)) (n := 4 * zW m0 (h + q.length)) (Nat.zero_le _) (Nat.zero_le _) ?_
  obtain ⟨f, hGa, hPF, hup⟩ := hC.at hpin.2 hp0
  rw [zPar_n hp1 hj hj2 (zTA_y hj4)] at hGa
  obtain ⟨g, hGj, hPj, _⟩ := hC.at hj2 hj4
  refine zz_aload_n (pc := 0) C dX2_noticeStop_0 rfl ?_
  refine zz_get (pc := 1) C in_X2_noticeStop_X1 (ci := 1) rfl 1 (by decide) (fl_X2_noticeStop_147) rfl dX2_noticeStop_1 hGa rfl ?_
  refine zz_astore_n (pc := 4) C dX2_noticeStop_4 (Nat.le_of_ble_eq_true rfl) ?_
  refine zz_aload_n (pc := 5) C dX2_noticeStop_5 rfl ?_
  refine zz_ifnull (pc := 6) C dX2_noticeStop_6 ?_
  refine zz_aload_n (pc := 9) C dX2_noticeStop_9 rfl ?_
  refine zz_get (pc := 10) C in_X2_noticeStop_X1 (ci := 1) rfl 6 (by decide) (fl_X2_noticeStop_191) rfl dX2_noticeStop_10 hGa rfl ?_
  refine zz_if_eq (pc := 13) C (tgt := 21) dX2_noticeStop_13 (by decide) (fun hc13 => ?_) (fun hc13 => ?_)
  · have hYe : Y = (σ, q) := by rw [hY, zStands_no (x := (σ, q)) (fun z => z.2 (hPF.2.2.2.2.2.1.symm.trans hc13))]
    exact zz_return (pc := 21) C dX2_noticeStop_21 (zRm_end h0Y).1 (zRm_end h0Y).2 ⟨rfl, by rw [hYe]; exact hC⟩
  · refine zz_aload_n (pc := 16) C dX2_noticeStop_16 rfl ?_
    refine zz_aload_n (pc := 17) C dX2_noticeStop_17 rfl ?_
    have hYe : Y = zTell (σ, q) j := by rw [hY, zStands_yes (x := (σ, q)) ⟨hp0, fun z => hc13 (hPF.2.2.2.2.2.1.trans z)⟩]; show zTell (σ, q) (pn (σ 1 p9)) = _; rw [hpn]
    refine zz_callV (pc := 18) C (c_clTell2 l D (p9 := j) hC hW hj4 hYe ht) gX2_noticeStop_X2_tellParent rfl 1 (by decide +kernel) ⟨Nat.le_of_ble_eq_true rfl, Nat.le_of_ble_eq_true rfl⟩ hC.x (ci := 2) rfl rfl rfl dX2_noticeStop_18 rfl (Nat.le_of_ble_eq_true rfl) rfl (zRm_ok (a := h + q.length) (b := h + Y.2.length) h0Y (Nat.le_refl _)) ?_
    rintro v G9 ⟨rfl, hC⟩
    rw [zmax h0Y] at hC
    refine zV.widen (k := zW m0 (h + Y.2.length)) (n := 4 * zW m0 (h + Y.2.length)) (zRm_eq h0Y).1 (zRm_eq h0Y).2 ?_
    exact zz_return (pc := 21) C dX2_noticeStop_21 (zRm_end (Nat.le_refl _)).1 (zRm_end (Nat.le_refl _)).2 ⟨rfl, hC⟩
