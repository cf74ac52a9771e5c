theorem fl_X2_terminate_106 : Cond.fieldLink RX2 106 "Signalpost$Proc" "session" "I" ∈ wsX2_terminate := by decide +kernel
theorem fl_X2_terminate_22 : Cond.fieldLink RX2 22 "Signalpost" "terminalHolder" "I" ∈ wsX2_terminate := by decide +kernel
theorem fl_X2_terminate_26 : Cond.fieldLink RX2 26 "Signalpost" "foregroundGroup" "I" ∈ wsX2_terminate := by decide +kernel
theorem fl_X2_terminate_18 : Cond.fieldLink RX2 18 "Signalpost" "events" "LSignalpost$EventQueue;" ∈ wsX2_terminate := by decide +kernel
theorem fl_X2_terminate_151 : Cond.fieldLink RX2 151 "Signalpost$Proc" "pid" "I" ∈ wsX2_terminate := by decide +kernel
theorem in_X2_terminate_X1 : ∀ w ∈ u_ws RX1 TX1 20, w ∈ wsX2_terminate := by decide +kernel
theorem in_X2_terminate_X2 : ∀ w ∈ u_ws RX2 TX2 4, w ∈ wsX2_terminate := by decide +kernel
theorem zOrph_off {σ τ : zS} (h : ∀ f, f ≠ 21 → f ≠ 22 → τ f = σ f) {g : Int32} : zOrph τ g ↔ zOrph σ g := by
  show (∀ k, k < 41 → ¬ (zAtt τ k ∧ τ 2 k = g)) ↔ (∀ k, k < 41 → ¬ (zAtt σ k ∧ σ 2 k = g))
  have e : ∀ k, zAtt τ k ↔ zAtt σ k := fun k => by unfold zAtt; rw [h 0 (by decide) (by decide), h 1 (by decide) (by decide), h 2 (by decide) (by decide), h 3 (by decide) (by decide), h 4 (by decide) (by decide)]
  simp only [e, h 2 (by decide) (by decide)]
theorem zT3_22 {σ : zS} {p : Nat} {a b : Int32} : ∀ f, f ≠ 21 → f ≠ 22 → zT3 σ p a b f = zT2 σ p a b f := fun f h1 h2 => zT3_off ⟨h1, h2⟩
theorem zSends_free {σ : zS} {g : Int32} {s n : Nat} : zSends (zFreeT σ) g s n = zSends σ g s n := rfl
set_option maxHeartbeats 16000000 in
set_option maxRecDepth 100000 in
theorem c_X2_terminate (l : Launch) (D : va_G) {B G : zG} {x tb ev : Nat} {A : Nat → Nat} {σ : zS} {q : List zEv} {h m0 : Nat} {p9 : Nat} {how w9 : Int32} {q2 : List zEv} (hC : zCl B x tb ev A σ q h m0 G) (hW : zWf σ) (hp0 : σ 0 p9 ≠ 0) (hp1 : p9 ≠ 1) (hhow : how = 0 ∨ how = 1) (hq : q2 = q ++ zTq σ p9 how w9) (ht : h + q2.length ≤ 16384) : zMet D l yX2_terminate wsX2_terminate (zRmA 5 131 m0 (h + q2.length)) [.ref x, .ref (A p9), .int how, .int w9] G (fun v G9 => v = none ∧ zCl B x tb ev A (zT3 σ p9 how w9) q2 h (max m0 (h + q2.length)) G9) := by
  have hpin := hW.in hp0
  obtain ⟨j, hj, hj1, hj2, hj3, hj4, hj5⟩ := hW.par hp0 hp1
  have hpn : pn (σ 1 p9) = j := by rw [hj]; exact nI_clamp (by omega)
  have hself : σ 1 p9 ≠ nI p9 := fun z => hj3 ((nI_eq (by omega) (by omega)).mp (hj.symm.trans z))
  have hHd : zHas (zDie σ p9 how w9) := by
    unfold zHas
    rw [zDie_off (f := 0) (by decide), zDie_off (f := 1) (by decide), zDie_off (f := 2) (by decide), zDie_off (f := 3) (by decide)]
    exact hW.has
  have hanc : zAnc 39 (zDie σ p9 how w9) j := (hW.anc hj4).ag (zDie_off (by decide)).symm (zDie_off (by decide)).symm
  have hT2e : zHandN (zDie σ p9 how w9) p9 (zHeir 40 (zDie σ p9 how w9) j) 41 = zT2 σ p9 how w9 := by unfold zT2; rw [hpn]
  obtain ⟨σ3, hs3⟩ : ∃ σ3 : zS, σ3 = zT3 σ p9 how w9 := ⟨_, rfl⟩
  obtain ⟨Q1, hQ1⟩ : ∃ Q1 : List zEv, Q1 = q ++ zTq1 σ p9 how w9 := ⟨_, rfl⟩
  obtain ⟨Q2, hQ2⟩ : ∃ Q2 : Nat → List zEv, ∀ i, Q2 i = Q1 ++ zTq2 σ p9 i := ⟨_, fun _ => rfl⟩
  obtain ⟨Q3, hQ3⟩ : ∃ Q3 : Nat → List zEv, ∀ i, Q3 i = Q2 41 ++ zTq3 σ σ3 i := ⟨_, fun _ => rfl⟩
  have hQF : q2 = Q3 41 ++ [(9, p9)] := by
    rw [hq, hQ3, hQ2, hQ1, hs3]
    unfold zTq
    simp only [List.append_assoc]
  have hW3 : zWf σ3 := by rw [hs3]; exact hW.t3 hp0 hp1 hhow
  have h30 : σ3 0 p9 ≠ 0 := by rw [hs3, zT3_0]; exact hp0
  have hQ21 : Q2 1 = Q1 := by
    rw [hQ2, zTq2_no (fun z => z.1 hW.z)]
    exact List.append_nil _
  have hQ321 : Q3 1 = Q2 41 := by
    rw [hQ3, zTq3_no (zNewO_0 ⟨hW3.z, fun k _ k0 => (hW3.1 k k0).2.2.1⟩)]
    exact List.append_nil _
  have hTF : h + (Q3 41).length ≤ h + q2.length := by rw [hQF, List.length_append]; omega
  have hT3 : ∀ i, i ≤ 41 → h + (Q3 i).length ≤ h + q2.length := fun i hi => by
    have h9 := zTq3_mono (σ := σ) (τ := σ3) (i := i) (41 - i)
    rw [show i + (41 - i) = 41 by omega] at h9
    have h8 : (Q3 i).length ≤ (Q3 41).length := by rw [hQ3, hQ3, List.length_append, List.length_append]; omega
    omega
  have hT2 : ∀ i, i ≤ 41 → h + (Q2 i).length ≤ h + q2.length := fun i hi => by
    have h9 := zTq2_mono (σ := σ) (p := p9) (i := i) (41 - i)
    rw [show i + (41 - i) = 41 by omega] at h9
    have h8 : (Q2 i).length ≤ (Q2 41).length := by rw [hQ2, hQ2, List.length_append, List.length_append]; omega
    have h7 := hT3 1 (by decide)
    rw [hQ321] at h7
    omega
  have hT1 : h + Q1.length ≤ h + q2.length := by rw [← hQ21]; exact hT2 1 (by decide)
  have hT01 : h + q.length ≤ h + Q1.length := by rw [hQ1, List.length_append]; omega
  have hT0 : h + q.length ≤ h + q2.length := Nat.le_trans hT01 hT1
  rw [← hs3]
  refine zMet_of (cc := cX2_terminate) (maxL := 11) (ret := none) (by decide) rfl (Nat.le_of_ble_eq_true rfl) ?_
  intro p e s m args below meth c C hmn
  have rest : ∀ (w1 zm wo : Int64) (G1 : zG), (∀ g, g < 64 → (zlbit zm g = true ↔ g < 41 ∧ zWasZ σ p9 g)) → (∀ g, g < 64 → (zlbit wo g = true ↔ ¬ zOrph σ (nI g) ∧ zOrph σ3 (nI g))) → zCl B x tb ev A σ3 Q1 h (max m0 (h + Q1.length)) G1 → zV p l e (zRmA 5 131 m0 (h + q2.length)) s m args below meth c D (zA G s.heap.size) (zW m0 (h + Q1.length)) (4 * zW m0 (h + Q1.length)) (zZ below D G (fun v G9 => v = none ∧ zCl B x tb ev A σ3 q2 h (max m0 (h + q2.length)) G9) args s (zRmA 5 131 m0 (h + q2.length))) G1 68 [some (.ref x), some (.ref (A p9)), some (.int how), some (.int w9), some (.long w1), none, some (.long zm), none, some (.long wo), none, none] [] := by
    intro w1 zm wo G1 hzm hwo hC
    have loop2 : ∀ (n i : Nat) (G1 : zG), i + n = 41 → 1 ≤ i → zCl B x tb ev A σ3 (Q3 i) h (max m0 (h + (Q3 (i)).length)) G1 → zV p l e (zRmA 5 131 m0 (h + q2.length)) s m args below meth c D (zA G s.heap.size) (zW m0 (h + (Q3 (i)).length)) (4 * zW m0 (h + (Q3 (i)).length)) (zZ below D G (fun v G9 => v = none ∧ zCl B x tb ev A σ3 q2 h (max m0 (h + q2.length)) G9) args s (zRmA 5 131 m0 (h + q2.length))) G1 108 [some (.ref x), some (.ref (A p9)), some (.int how), some (.int w9), some (.long w1), none, some (.long zm), none, some (.long wo), none, some (.int (nI (i)))] [] := by
      intro n
      induction n with
      | zero =>
        intro i G1 hi hi1 hC
        have hi41 : i = 41 := by omega
        subst hi41
        obtain ⟨g, hGk, hPk, _⟩ := hC.at hpin.2 h30
        obtain ⟨fe, hE⟩ := hC.ev
        refine zz_iload (pc := 108) C dX2_terminate_108 rfl ?_
        refine zz_bipush (pc := 110) C (v := 40) (by decide) dX2_terminate_110 ?_
        refine zz_icmp_gt (pc := 112) C (tgt := 157) dX2_terminate_112 (by decide) (fun hc112 => ?_) (fun hc112 => ?_)
        · refine zz_aload_n (pc := 157) C dX2_terminate_157 rfl ?_
          refine zz_get (pc := 158) C in_X2_terminate_X2 (ci := 2) rfl 1 (by decide) (fl_X2_terminate_18) rfl dX2_terminate_158 hC.x rfl ?_
          refine zz_bipush (pc := 161) C (v := 9) (by decide) dX2_terminate_161 ?_
          refine zz_aload_n (pc := 163) C dX2_terminate_163 rfl ?_
          refine zz_get (pc := 164) C in_X2_terminate_X1 (ci := 1) rfl 0 (by decide) (fl_X2_terminate_151) rfl dX2_terminate_164 hGk rfl ?_
          refine zz_callV (pc := 167) C (c_clApp2 l D (q2 := q2) (e9 := (9, p9)) hC hQF ht rfl hPk.1) gX2_terminate_X0_append rfl 2 (by decide +kernel) ⟨Nat.le_of_ble_eq_true rfl, Nat.le_of_ble_eq_true rfl⟩ hE (ci := 0) rfl rfl rfl dX2_terminate_167 rfl (Nat.le_of_ble_eq_true rfl) rfl (zRm_ok (a := h + (Q3 (41)).length) (b := h + q2.length) hTF (Nat.le_refl _)) ?_
          rintro v G9 ⟨rfl, hC⟩
          rw [zmax hTF] at hC
          refine zV.widen (k := zW m0 (h + q2.length)) (n := 4 * zW m0 (h + q2.length)) (zRm_eq hTF).1 (zRm_eq hTF).2 ?_
          exact zz_return (pc := 170) C dX2_terminate_170 (zRm_end (Nat.le_refl _)).1 (zRm_end (Nat.le_refl _)).2 ⟨rfl, hC⟩
        · exact absurd z41 hc112
      | succ n ih =>
        intro i G1 hi hi1 hC
        have hno2 : ¬ zNewO σ σ3 i → zV p l e (zRmA 5 131 m0 (h + q2.length)) s m args below meth c D (zA G s.heap.size) (zW m0 (h + (Q3 (i)).length)) (4 * zW m0 (h + (Q3 (i)).length)) (zZ below D G (fun v G9 => v = none ∧ zCl B x tb ev A σ3 q2 h (max m0 (h + q2.length)) G9) args s (zRmA 5 131 m0 (h + q2.length))) G1 108 [some (.ref x), some (.ref (A p9)), some (.int how), some (.int w9), some (.long w1), none, some (.long zm), none, some (.long wo), none, some (.int (nI (i + 1)))] [] := by
          intro hz
          have hq3 : Q3 (i + 1) = Q3 i := by rw [hQ3, hQ3, zTq3_no hz]
          have h9 := ih (i + 1) G1 (by omega) (by omega) (by rw [hq3]; exact hC)
          rw [hq3] at h9
          exact h9
        refine zz_iload (pc := 108) C dX2_terminate_108 rfl ?_
        refine zz_bipush (pc := 110) C (v := 40) (by decide) dX2_terminate_110 ?_
        refine zz_icmp_gt (pc := 112) C (tgt := 157) dX2_terminate_112 (by decide) (fun hc112 => ?_) (fun hc112 => ?_)
        · exact absurd hc112 (z40gt (by omega))
        · refine zz_lload (pc := 115) C dX2_terminate_115 rfl ?_
          refine zz_iload (pc := 117) C dX2_terminate_117 rfl ?_
          refine zz_callS (pc := 119) C (c_X2_contains l D (G := _) (w := wo) (s9 := i) (by omega)) gX2_terminate_X2_contains rfl 2 (by decide +kernel) ⟨Nat.le_of_ble_eq_true rfl, Nat.le_of_ble_eq_true rfl⟩ rfl dX2_terminate_119 rfl (Nat.le_of_ble_eq_true rfl) rfl (zRm_0 (a := h + (Q3 (i)).length) (hT3 i (by omega))) ?_
          rintro v G9 ⟨rfl, rfl⟩
          refine zV.wid0 ?_
          refine zz_if_eq (pc := 122) C (tgt := 151) dX2_terminate_122 (by decide) (fun hc122 => ?_) (fun hc122 => ?_)
          · refine zz_iinc (pc := 151) C dX2_terminate_151 rfl ?_
            refine zz_goto (pc := 154) C (tgt := 108) dX2_terminate_154 (by decide) ?_
            exact zV.less (L' := [some (.ref x), some (.ref (A p9)), some (.int how), some (.int w9), some (.long w1), none, some (.long zm), none, some (.long wo), none, some (.int (nI (i + 1)))]) ⟨rfl, rfl, rfl, rfl, rfl, rfl, rfl, zvi (z1i i), trivial⟩ (hno2 (fun z => zb_eq.mp hc122 ((hwo i (by omega)).mpr ⟨z.1, z.2.1⟩)))
          · refine zz_aload_n (pc := 125) C dX2_terminate_125 rfl ?_
            refine zz_iload (pc := 126) C dX2_terminate_126 rfl ?_
            refine zz_callV (pc := 128) C (c_clStpd l D (g9 := nI i) hC) gX2_terminate_X2_hasStoppedMember rfl 1 (by decide +kernel) ⟨Nat.le_of_ble_eq_true rfl, Nat.le_of_ble_eq_true rfl⟩ hC.x (ci := 2) rfl rfl rfl dX2_terminate_128 rfl (Nat.le_of_ble_eq_true rfl) rfl (zRm_0 (a := h + (Q3 (i)).length) (hT3 i (by omega))) ?_
            rintro v G9 ⟨rfl, rfl⟩
            refine zV.wid0 ?_
            refine zz_if_eq (pc := 131) C (tgt := 151) dX2_terminate_131 (by decide) (fun hc131 => ?_) (fun hc131 => ?_)
            · refine zz_iinc (pc := 151) C dX2_terminate_151 rfl ?_
              refine zz_goto (pc := 154) C (tgt := 108) dX2_terminate_154 (by decide) ?_
              exact zV.less (L' := [some (.ref x), some (.ref (A p9)), some (.int how), some (.int w9), some (.long w1), none, some (.long zm), none, some (.long wo), none, some (.int (nI (i + 1)))]) ⟨rfl, rfl, rfl, rfl, rfl, rfl, rfl, zvi (z1i i), trivial⟩ (hno2 (fun z => zb_eq.mp hc131 z.2.2))
            · refine zz_aload_n (pc := 134) C dX2_terminate_134 rfl ?_
              refine zz_iload (pc := 135) C dX2_terminate_135 rfl ?_
              refine zz_iconst (pc := 137) C (v := 0) (by decide) dX2_terminate_137 ?_
              have hnew : zNewO σ σ3 i := ⟨((hwo i (by omega)).mp (zbp hc122)).1, ((hwo i (by omega)).mp (zbp hc122)).2, zbp hc131⟩
              have hq3 : Q3 (i + 1) = (Q3 i ++ zSends σ3 (nI i) 0 41) ++ zSends σ3 (nI i) 7 41 := by rw [hQ3, hQ3, zTq3_yes hnew, List.append_assoc, List.append_assoc]
              have hm12 : h + (Q3 (i)).length ≤ h + (Q3 i ++ zSends σ3 (nI i) 0 41).length ∧ h + (Q3 i ++ zSends σ3 (nI i) 0 41).length ≤ h + (Q3 (i + 1)).length := by rw [hq3]; simp only [List.length_append]; omega
              refine zz_callV (pc := 138) C (c_clSends2 l D (q2 := Q3 i ++ zSends σ3 (nI i) 0 41) (s9 := 0) hC rfl (Nat.le_trans (Nat.le_trans hm12.2 (hT3 (i + 1) (by omega))) ht) (by decide)) gX2_terminate_X2_appendForMembers rfl 2 (by decide +kernel) ⟨Nat.le_of_ble_eq_true rfl, Nat.le_of_ble_eq_true rfl⟩ hC.x (ci := 2) rfl rfl rfl dX2_terminate_138 rfl (Nat.le_of_ble_eq_true rfl) rfl (zRm_ok (a := h + (Q3 (i)).length) (b := h + (Q3 i ++ zSends σ3 (nI i) 0 41).length) hm12.1 (Nat.le_trans hm12.2 (hT3 (i + 1) (by omega)))) ?_
              rintro v G9 ⟨rfl, hC⟩
              rw [zmax hm12.1] at hC
              refine zV.widen (k := zW m0 (h + (Q3 i ++ zSends σ3 (nI i) 0 41).length)) (n := 4 * zW m0 (h + (Q3 i ++ zSends σ3 (nI i) 0 41).length)) (zRm_eq hm12.1).1 (zRm_eq hm12.1).2 ?_
              refine zz_pop (pc := 141) C dX2_terminate_141 rfl ?_
              refine zz_aload_n (pc := 142) C dX2_terminate_142 rfl ?_
              refine zz_iload (pc := 143) C dX2_terminate_143 rfl ?_
              refine zz_bipush (pc := 145) C (v := 7) (by decide) dX2_terminate_145 ?_
              refine zz_callV (pc := 147) C (c_clSends2 l D (q2 := Q3 (i + 1)) (s9 := 7) hC hq3 (Nat.le_trans (hT3 (i + 1) (by omega)) ht) (by decide)) gX2_terminate_X2_appendForMembers rfl 2 (by decide +kernel) ⟨Nat.le_of_ble_eq_true rfl, Nat.le_of_ble_eq_true rfl⟩ hC.x (ci := 2) rfl rfl rfl dX2_terminate_147 rfl (Nat.le_of_ble_eq_true rfl) rfl (zRm_ok (a := h + (Q3 i ++ zSends σ3 (nI i) 0 41).length) (b := h + (Q3 (i + 1)).length) hm12.2 (hT3 (i + 1) (by omega))) ?_
              rintro v G9 ⟨rfl, hC⟩
              rw [zmax hm12.2] at hC
              refine zV.widen (k := zW m0 (h + (Q3 (i + 1)).length)) (n := 4 * zW m0 (h + (Q3 (i + 1)).length)) (zRm_eq hm12.2).1 (zRm_eq hm12.2).2 ?_
              refine zz_pop (pc := 150) C dX2_terminate_150 rfl ?_
              refine zz_iinc (pc := 151) C dX2_terminate_151 rfl ?_
              refine zz_goto (pc := 154) C (tgt := 108) dX2_terminate_154 (by decide) ?_
              exact zV.less (L' := [some (.ref x), some (.ref (A p9)), some (.int how), some (.int w9), some (.long w1), none, some (.long zm), none, some (.long wo), none, some (.int (nI (i + 1)))]) ⟨rfl, rfl, rfl, rfl, rfl, rfl, rfl, zvi (z1i i), trivial⟩ (ih (i + 1) _ (by omega) (by omega) hC)
    have loop1 : ∀ (n i : Nat) (G1 : zG), i + n = 41 → 1 ≤ i → zCl B x tb ev A σ3 (Q2 i) h (max m0 (h + (Q2 (i)).length)) G1 → zV p l e (zRmA 5 131 m0 (h + q2.length)) s m args below meth c D (zA G s.heap.size) (zW m0 (h + (Q2 (i)).length)) (4 * zW m0 (h + (Q2 (i)).length)) (zZ below D G (fun v G9 => v = none ∧ zCl B x tb ev A σ3 q2 h (max m0 (h + q2.length)) G9) args s (zRmA 5 131 m0 (h + q2.length))) G1 71 [some (.ref x), some (.ref (A p9)), some (.int how), some (.int w9), some (.long w1), none, some (.long zm), none, some (.long wo), none, some (.int (nI (i)))] [] := by
      intro n
      induction n with
      | zero =>
        intro i G1 hi hi1 hC
        have hi41 : i = 41 := by omega
        subst hi41
        refine zz_iload (pc := 71) C dX2_terminate_71 rfl ?_
        refine zz_bipush (pc := 73) C (v := 40) (by decide) dX2_terminate_73 ?_
        refine zz_icmp_gt (pc := 75) C (tgt := 105) dX2_terminate_75 (by decide) (fun hc75 => ?_) (fun hc75 => ?_)
        · refine zz_iconst (pc := 105) C (v := 1) (by decide) dX2_terminate_105 ?_
          refine zz_istore (pc := 106) C dX2_terminate_106 (Nat.le_of_ble_eq_true rfl) ?_
          rw [← hQ321] at hC ⊢
          exact zV.less (L' := [some (.ref x), some (.ref (A p9)), some (.int how), some (.int w9), some (.long w1), none, some (.long zm), none, some (.long wo), none, some (.int (nI (1)))]) ⟨rfl, rfl, rfl, rfl, rfl, rfl, rfl, rfl, trivial⟩ (loop2 40 1 _ rfl (Nat.le_refl _) hC)
        · exact absurd z41 hc75
      | succ n ih =>
        intro i G1 hi hi1 hC
        obtain ⟨fe, hE⟩ := hC.ev
        have hno2 : ¬ zWasZ σ p9 i → zV p l e (zRmA 5 131 m0 (h + q2.length)) s m args below meth c D (zA G s.heap.size) (zW m0 (h + (Q2 (i)).length)) (4 * zW m0 (h + (Q2 (i)).length)) (zZ below D G (fun v G9 => v = none ∧ zCl B x tb ev A σ3 q2 h (max m0 (h + q2.length)) G9) args s (zRmA 5 131 m0 (h + q2.length))) G1 71 [some (.ref x), some (.ref (A p9)), some (.int how), some (.int w9), some (.long w1), none, some (.long zm), none, some (.long wo), none, some (.int (nI (i + 1)))] [] := by
          intro hz
          have hq3 : Q2 (i + 1) = Q2 i := by rw [hQ2, hQ2, zTq2_no hz]
          have h9 := ih (i + 1) G1 (by omega) (by omega) (by rw [hq3]; exact hC)
          rw [hq3] at h9
          exact h9
        refine zz_iload (pc := 71) C dX2_terminate_71 rfl ?_
        refine zz_bipush (pc := 73) C (v := 40) (by decide) dX2_terminate_73 ?_
        refine zz_icmp_gt (pc := 75) C (tgt := 105) dX2_terminate_75 (by decide) (fun hc75 => ?_) (fun hc75 => ?_)
        · exact absurd hc75 (z40gt (by omega))
        · refine zz_lload (pc := 78) C dX2_terminate_78 rfl ?_
          refine zz_iload (pc := 80) C dX2_terminate_80 rfl ?_
          refine zz_callS (pc := 82) C (c_X2_contains l D (G := _) (w := zm) (s9 := i) (by omega)) gX2_terminate_X2_contains rfl 2 (by decide +kernel) ⟨Nat.le_of_ble_eq_true rfl, Nat.le_of_ble_eq_true rfl⟩ rfl dX2_terminate_82 rfl (Nat.le_of_ble_eq_true rfl) rfl (zRm_0 (a := h + (Q2 (i)).length) (hT2 i (by omega))) ?_
          rintro v G9 ⟨rfl, rfl⟩
          refine zV.wid0 ?_
          refine zz_if_eq (pc := 85) C (tgt := 99) dX2_terminate_85 (by decide) (fun hc85 => ?_) (fun hc85 => ?_)
          · refine zz_iinc (pc := 99) C dX2_terminate_99 rfl ?_
            refine zz_goto (pc := 102) C (tgt := 71) dX2_terminate_102 (by decide) ?_
            exact zV.less (L' := [some (.ref x), some (.ref (A p9)), some (.int how), some (.int w9), some (.long w1), none, some (.long zm), none, some (.long wo), none, some (.int (nI (i + 1)))]) ⟨rfl, rfl, rfl, rfl, rfl, rfl, rfl, zvi (z1i i), trivial⟩ (hno2 (fun z => zb_eq.mp hc85 ((hzm i (by omega)).mpr ⟨by omega, z⟩)))
          · refine zz_aload_n (pc := 88) C dX2_terminate_88 rfl ?_
            refine zz_get (pc := 89) C in_X2_terminate_X2 (ci := 2) rfl 1 (by decide) (fl_X2_terminate_18) rfl dX2_terminate_89 hC.x rfl ?_
            refine zz_bipush (pc := 92) C (v := 9) (by decide) dX2_terminate_92 ?_
            refine zz_iload (pc := 94) C dX2_terminate_94 rfl ?_
            have hq3 : Q2 (i + 1) = Q2 i ++ [(9, i)] := by rw [hQ2, hQ2, zTq2_yes ((hzm i (by omega)).mp (zbp hc85)).2, List.append_assoc]
            have hm12 : h + (Q2 (i)).length ≤ h + (Q2 (i + 1)).length := by rw [hq3, List.length_append]; omega
            refine zz_callV (pc := 96) C (c_clApp2 l D (q2 := Q2 (i + 1)) (e9 := (9, i)) hC hq3 (Nat.le_trans (hT2 (i + 1) (by omega)) ht) rfl rfl) gX2_terminate_X0_append rfl 2 (by decide +kernel) ⟨Nat.le_of_ble_eq_true rfl, Nat.le_of_ble_eq_true rfl⟩ hE (ci := 0) rfl rfl rfl dX2_terminate_96 rfl (Nat.le_of_ble_eq_true rfl) rfl (zRm_ok (a := h + (Q2 (i)).length) (b := h + (Q2 (i + 1)).length) hm12 (hT2 (i + 1) (by omega))) ?_
            rintro v G9 ⟨rfl, hC⟩
            rw [zmax hm12] at hC
            refine zV.widen (k := zW m0 (h + (Q2 (i + 1)).length)) (n := 4 * zW m0 (h + (Q2 (i + 1)).length)) (zRm_eq hm12).1 (zRm_eq hm12).2 ?_
            refine zz_iinc (pc := 99) C dX2_terminate_99 rfl ?_
            refine zz_goto (pc := 102) C (tgt := 71) dX2_terminate_102 (by decide) ?_
            exact zV.less (L' := [some (.ref x), some (.ref (A p9)), some (.int how), some (.int w9), some (.long w1), none, some (.long zm), none, some (.long wo), none, some (.int (nI (i + 1)))]) ⟨rfl, rfl, rfl, rfl, rfl, rfl, rfl, zvi (z1i i), trivial⟩ (ih (i + 1) _ (by omega) (by omega) hC)
    refine zz_iconst (pc := 68) C (v := 1) (by decide) dX2_terminate_68 ?_
    refine zz_istore (pc := 69) C dX2_terminate_69 (Nat.le_of_ble_eq_true rfl) ?_
    rw [← hQ21] at hC ⊢
    exact zV.less (L' := [some (.ref x), some (.ref (A p9)), some (.int how), some (.int w9), some (.long w1), none, some (.long zm), none, some (.long wo), none, some (.int (nI (1)))]) ⟨rfl, rfl, rfl, rfl, rfl, rfl, rfl, rfl, trivial⟩ (loop1 40 1 _ rfl (Nat.le_refl _) hC)
  have hC := zCl_max hC
  refine zV.widen (k := zW m0 (h + q.length)) (n := 4 * zW m0 (h + q.length)) (Nat.zero_le _) (Nat.zero_le _) ?_
  obtain ⟨f, hGa, hPF, hup⟩ := hC.at hpin.2 hp0
  refine zz_aload_n (pc := 0) C dX2_terminate_0 rfl ?_
  refine zz_callV (pc := 1) C (c_clAttG l D hC hW.has) gX2_terminate_X2_attachedGroups rfl 0 (by decide +kernel) ⟨Nat.le_of_ble_eq_true rfl, Nat.le_of_ble_eq_true rfl⟩ hC.x (ci := 2) rfl rfl rfl dX2_terminate_1 rfl (Nat.le_of_ble_eq_true rfl) rfl (zRm_0 (a := h + q.length) hT0) ?_
  rintro v G9 ⟨w1, rfl, hw1, rfl⟩
  refine zV.wid0 ?_
  refine zz_lstore (pc := 4) C dX2_terminate_4 (Nat.le_of_ble_eq_true rfl) ?_
  refine zV.less (L' := [some (.ref x), some (.ref (A p9)), some (.int how), some (.int w9), some (.long w1), none, none, none, none, none, none]) ⟨rfl, rfl, rfl, rfl, rfl, trivial⟩ ?_
  refine zz_aload_n (pc := 6) C dX2_terminate_6 rfl ?_
  refine zz_iload_n (pc := 7) C dX2_terminate_7 rfl ?_
  refine zz_iload_n (pc := 8) C dX2_terminate_8 rfl ?_
  refine zz_callV (pc := 9) C (c_X1_becomeZombie l D hGa) gX2_terminate_X1_becomeZombie rfl 2 (by decide +kernel) ⟨Nat.le_of_ble_eq_true rfl, Nat.le_of_ble_eq_true rfl⟩ hGa (ci := 1) rfl rfl rfl dX2_terminate_9 rfl (Nat.le_of_ble_eq_true rfl) rfl (zRm_0 (a := h + q.length) hT0) ?_
  rintro v G9 ⟨rfl, rfl⟩
  have hC := hup _ _ zOwn_die (zPF_die (a := how) (b := w9) hPF)
  refine zV.wid0 ?_
  refine zz_aload_n (pc := 12) C dX2_terminate_12 rfl ?_
  refine zz_aload_n (pc := 13) C dX2_terminate_13 rfl ?_
  refine zz_callV (pc := 14) C (c_X2_handOverChildren l D (p9 := p9) (j := j) (hh := zHeir 40 (zDie σ p9 how w9) j) hC hHd (by rw [zDie_off (by decide)]; exact hW.x0) (by rw [zDie_4, if_neg (fun z => hp1 z.symm)]; exact hW.x.2.2.1) (by rw [zDie_off (by decide)]; exact hW.x.2.2.2) hpin.2 (by rw [zDie_off (by decide)]; exact hp0) hp1 (by rw [zDie_off (by decide)]; exact hj) hanc rfl) gX2_terminate_X2_handOverChildren rfl 1 (by decide +kernel) ⟨Nat.le_of_ble_eq_true rfl, Nat.le_of_ble_eq_true rfl⟩ hC.x (ci := 2) rfl rfl rfl dX2_terminate_14 rfl (Nat.le_of_ble_eq_true rfl) rfl (zRm_0 (a := h + q.length) hT0) ?_
  rintro v G9 ⟨zm, rfl, hzm, hC⟩
  rw [hT2e] at hC
  obtain ⟨f2, hGb, hPb, _⟩ := hC.at (k := p9) hpin.2 (by rw [zT2_off (by decide)]; exact hp0)
  have e3 : f2 3 = σ 3 p9 := hPb.2.2.1.trans (by rw [zT2_off (by decide)])
  have e21 : zT2 σ p9 how w9 21 0 = σ 21 0 := by rw [zT2_off (by decide)]
  have e22 : zT2 σ p9 how w9 22 0 = σ 22 0 := by rw [zT2_off (by decide)]
  refine zV.wid0 ?_
  refine zz_lstore (pc := 17) C dX2_terminate_17 (Nat.le_of_ble_eq_true rfl) ?_
  refine zV.less (L' := [some (.ref x), some (.ref (A p9)), some (.int how), some (.int w9), some (.long w1), none, some (.long zm), none, none, none, none]) ⟨rfl, rfl, rfl, rfl, rfl, rfl, trivial⟩ ?_
  refine zz_lload (pc := 19) C dX2_terminate_19 rfl ?_
  refine zz_aload_n (pc := 21) C dX2_terminate_21 rfl ?_
  refine zz_callV (pc := 22) C (c_clAttG l D hC (hW.t2 hp0 hp1 hhow).has) gX2_terminate_X2_attachedGroups rfl 0 (by decide +kernel) ⟨Nat.le_of_ble_eq_true rfl, Nat.le_of_ble_eq_true rfl⟩ hC.x (ci := 2) rfl rfl rfl dX2_terminate_22 rfl (Nat.le_of_ble_eq_true rfl) rfl (zRm_0 (a := h + q.length) hT0) ?_
  rintro v G9 ⟨w2, rfl, hw2, rfl⟩
  refine zV.wid0 ?_
  refine zz_ldc2 (pc := 25) C (v := -1) (by decide +kernel) dX2_terminate_25 ?_
  refine zz_lxor (pc := 28) C dX2_terminate_28 ?_
  refine zz_land (pc := 29) C dX2_terminate_29 ?_
  obtain ⟨wo, hwo⟩ : ∃ wo : Int64, w1 &&& (w2 ^^^ (-1)) = wo := ⟨_, rfl⟩
  rw [hwo]
  refine zz_lstore (pc := 30) C dX2_terminate_30 (Nat.le_of_ble_eq_true rfl) ?_
  refine zV.less (L' := [some (.ref x), some (.ref (A p9)), some (.int how), some (.int w9), some (.long w1), none, some (.long zm), none, some (.long wo), none, none]) ⟨rfl, rfl, rfl, rfl, rfl, rfl, rfl, trivial⟩ ?_
  refine zz_aload_n (pc := 32) C dX2_terminate_32 rfl ?_
  refine zz_callV (pc := 33) C (c_X1_leadsSession l D hGb) gX2_terminate_X1_leadsSession rfl 0 (by decide +kernel) ⟨Nat.le_of_ble_eq_true rfl, Nat.le_of_ble_eq_true rfl⟩ hGb (ci := 1) rfl rfl rfl dX2_terminate_33 rfl (Nat.le_of_ble_eq_true rfl) rfl (zRm_0 (a := h + q.length) hT0) ?_
  rintro v G9 ⟨rfl, rfl⟩
  refine zV.wid0 ?_
  refine zz_if_eq (pc := 36) C (tgt := 68) dX2_terminate_36 (by decide) (fun hc36 => ?_) (fun hc36 => ?_)
  · have hzm9 : ∀ g, g < 64 → (zlbit zm g = true ↔ g < 41 ∧ zWasZ σ p9 g) := fun g hg => by rw [hzm g hg, zWasZ_die hself]
    have hn : ¬ zTm σ p9 := (fun z => zb_eq.mp hc36 (hPb.1.trans (z.1.symm.trans e3.symm)))
    have hQq : Q1 = q := by rw [hQ1, zTq1_no hn, List.append_nil]
    rw [show zT2 σ p9 how w9 = σ3 from by rw [hs3, zT3_no hn], ← hQq] at hC
    refine zV.widen (k := zW m0 (h + Q1.length)) (n := 4 * zW m0 (h + Q1.length)) (zW_mono hT01) (Nat.mul_le_mul_left 4 (zW_mono hT01)) ?_
    exact zV.less (L' := [some (.ref x), some (.ref (A p9)), some (.int how), some (.int w9), some (.long w1), none, some (.long zm), none, some (.long wo), none, none]) ⟨rfl, rfl, rfl, rfl, rfl, rfl, rfl, trivial⟩ (rest w1 zm _ _ hzm9 (fun g hg => by rw [hs3, zOrph_off zT3_22, ← hwo]; exact zlbit_new hw1 hw2 hg) hC)
  · refine zz_aload_n (pc := 39) C dX2_terminate_39 rfl ?_
    refine zz_get (pc := 40) C in_X2_terminate_X1 (ci := 1) rfl 3 (by decide) (fl_X2_terminate_106) rfl dX2_terminate_40 hGb rfl ?_
    refine zz_aload_n (pc := 43) C dX2_terminate_43 rfl ?_
    refine zz_get (pc := 44) C in_X2_terminate_X2 (ci := 2) rfl 2 (by decide) (fl_X2_terminate_22) rfl dX2_terminate_44 hC.x rfl ?_
    refine zz_icmp_ne (pc := 47) C (tgt := 68) dX2_terminate_47 (by decide) (fun hc47 => ?_) (fun hc47 => ?_)
    · have hzm9 : ∀ g, g < 64 → (zlbit zm g = true ↔ g < 41 ∧ zWasZ σ p9 g) := fun g hg => by rw [hzm g hg, zWasZ_die hself]
      have hn : ¬ zTm σ p9 := (fun z => hc47 (e3.trans (z.1.trans (e21.trans z.2).symm)))
      have hQq : Q1 = q := by rw [hQ1, zTq1_no hn, List.append_nil]
      rw [show zT2 σ p9 how w9 = σ3 from by rw [hs3, zT3_no hn], ← hQq] at hC
      refine zV.widen (k := zW m0 (h + Q1.length)) (n := 4 * zW m0 (h + Q1.length)) (zW_mono hT01) (Nat.mul_le_mul_left 4 (zW_mono hT01)) ?_
      exact zV.less (L' := [some (.ref x), some (.ref (A p9)), some (.int how), some (.int w9), some (.long w1), none, some (.long zm), none, some (.long wo), none, none]) ⟨rfl, rfl, rfl, rfl, rfl, rfl, rfl, trivial⟩ (rest w1 zm _ _ hzm9 (fun g hg => by rw [hs3, zOrph_off zT3_22, ← hwo]; exact zlbit_new hw1 hw2 hg) hC)
    · refine zz_aload_n (pc := 50) C dX2_terminate_50 rfl ?_
      refine zz_get (pc := 51) C in_X2_terminate_X2 (ci := 2) rfl 3 (by decide) (fl_X2_terminate_26) rfl dX2_terminate_51 hC.x rfl ?_
      refine zz_istore (pc := 54) C dX2_terminate_54 (Nat.le_of_ble_eq_true rfl) ?_
      refine zV.less (L' := [some (.ref x), some (.ref (A p9)), some (.int how), some (.int w9), some (.long w1), none, some (.long zm), none, some (.long wo), none, some (.int (zT2 σ p9 how w9 22 0))]) ⟨rfl, rfl, rfl, rfl, rfl, rfl, rfl, rfl, trivial⟩ ?_
      refine zz_aload_n (pc := 56) C dX2_terminate_56 rfl ?_
      refine zz_callV (pc := 57) C (c_clFreeT l D hC) gX2_terminate_X2_freeTerminal rfl 0 (by decide +kernel) ⟨Nat.le_of_ble_eq_true rfl, Nat.le_of_ble_eq_true rfl⟩ hC.x (ci := 2) rfl rfl rfl dX2_terminate_57 rfl (Nat.le_of_ble_eq_true rfl) rfl (zRm_0 (a := h + q.length) hT0) ?_
      rintro v G9 ⟨rfl, hC⟩
      refine zV.wid0 ?_
      refine zz_aload_n (pc := 60) C dX2_terminate_60 rfl ?_
      refine zz_iload (pc := 61) C dX2_terminate_61 rfl ?_
      refine zz_iconst (pc := 63) C (v := 0) (by decide) dX2_terminate_63 ?_
      have htm : zTm σ p9 := ⟨e3.symm.trans ((zbp hc36).symm.trans hPb.1), e21.symm.trans ((Classical.not_not.mp hc47).symm.trans ((zbp hc36).symm.trans hPb.1))⟩
      refine zz_callV (pc := 64) C (c_clSends2 l D (q2 := Q1) (s9 := 0) hC (by rw [hQ1, zTq1_if htm, zSends_free, e22]) (Nat.le_trans hT1 ht) (by decide)) gX2_terminate_X2_appendForMembers rfl 2 (by decide +kernel) ⟨Nat.le_of_ble_eq_true rfl, Nat.le_of_ble_eq_true rfl⟩ hC.x (ci := 2) rfl rfl rfl dX2_terminate_64 rfl (Nat.le_of_ble_eq_true rfl) rfl (zRm_ok (a := h + q.length) (b := h + Q1.length) hT01 hT1) ?_
      rintro v G9 ⟨rfl, hC⟩
      rw [zmax hT01] at hC
      refine zV.widen (k := zW m0 (h + Q1.length)) (n := 4 * zW m0 (h + Q1.length)) (zRm_eq hT01).1 (zRm_eq hT01).2 ?_
      refine zz_pop (pc := 67) C dX2_terminate_67 rfl ?_
      have hzm9 : ∀ g, g < 64 → (zlbit zm g = true ↔ g < 41 ∧ zWasZ σ p9 g) := fun g hg => by rw [hzm g hg, zWasZ_die hself]
      have hC : zCl B x tb ev A σ3 Q1 h (max m0 (h + Q1.length)) G9 := by rw [hs3, zT3_if htm]; exact hC
      exact zV.less (L' := [some (.ref x), some (.ref (A p9)), some (.int how), some (.int w9), some (.long w1), none, some (.long zm), none, some (.long wo), none, none]) ⟨rfl, rfl, rfl, rfl, rfl, rfl, rfl, trivial⟩ (rest w1 zm _ _ hzm9 (fun g hg => by rw [hs3, zOrph_off zT3_22, ← hwo]; exact zlbit_new hw1 hw2 hg) hC)
