theorem zCl.inj {B : zG} {x tb ev : Nat} {A : Nat → Nat} {σ : zS} {q : List zEv} {h m0 : Nat} {G : zG} (hC : zCl B x tb ev A σ q h m0 G) {i j : Nat} (hi : i < 41) (hj : j < 41) (h1 : σ 0 i ≠ 0) (h2 : σ 0 j ≠ 0) (e : A i = A j) : i = j := by
  obtain ⟨hm, ka, pa, F, fk, fp, ck, cp, hB⟩ := hC
  exact hB.inj hi hj (zTA_y h1) (by rw [e]; exact zTA_y h2)
theorem zCl.tbl {B : zG} {x tb ev : Nat} {A : Nat → Nat} {σ : zS} {q : List zEv} {h m0 : Nat} {G : zG} (hC : zCl B x tb ev A σ q h m0 G) : G tb = some (1, .inl (.object "Signalpost$Proc", 41, .inr (.inr (.inr (.inr (zTA σ A)))))) := by
  obtain ⟨hm, ka, pa, F, fk, fp, ck, cp, hB⟩ := hC
  exact hB.2.2.1
theorem zCl.gone {B : zG} {x tb ev : Nat} {A : Nat → Nat} {σ : zS} {q : List zEv} {h m0 : Nat} {G : zG} (hC : zCl B x tb ev A σ q h m0 G) {k : Nat} (hch : ∀ j, j < 41 → j ≠ k → σ 0 j ≠ 0 → j ≠ 1 → pn (σ 1 j) ≠ k) : zCl B x tb ev A (zu σ 0 k 0) q h m0 (zU G tb (1, .inl (.object "Signalpost$Proc", 41, .inr (.inr (.inr (.inr (va_up (zTA σ A) k none))))))) := by
  obtain ⟨hm, ka, pa, F, fk, fp, ck, cp, hB⟩ := hC
  have h9 := zCls_gone hB hch
  have e : va_up (zTA σ A) k none = zTA (zu σ 0 k 0) A := by
    funext j
    unfold va_up zTA
    by_cases hj : j = k
    · simp [hj, zu]
    · simp [hj, zu]
  refine ⟨hm, ka, pa, F, fk, fp, ck, cp, ?_⟩
  rw [e] at h9 ⊢
  exact h9
/-- what the cells of those hold that are not there, nobody asks -/
theorem zCl.dead {B : zG} {x tb ev : Nat} {A : Nat → Nat} {σ τ : zS} {q : List zEv} {h m0 : Nat} {G : zG} (hC : zCl B x tb ev A σ q h m0 G) (h0 : ∀ j, τ 0 j = σ 0 j) (h1 : ∀ j, j < 41 → σ 0 j ≠ 0 → τ 1 j = σ 1 j) (h2 : ∀ g j, j < 41 → σ 0 j ≠ 0 → 2 ≤ g → g ≤ 20 → g ≠ 9 → τ g j = σ g j) (h9 : ∀ j s, j < 41 → σ 0 j ≠ 0 → s < 9 → τ 9 (9 * j + s) = σ 9 (9 * j + s)) (ht : τ 21 0 = σ 21 0 ∧ τ 22 0 = σ 22 0) : zCl B x tb ev A τ q h m0 G := by
  obtain ⟨hm, ka, pa, F, fk, fp, ck, cp, c1, c2, c3, c4, c5, c6⟩ := hC
  have e : zTA τ A = zTA σ A := zTA_ag h0
  refine ⟨hm, ka, pa, F, fk, fp, ck, cp, ?_⟩
  rw [e]
  refine ⟨c1, by rw [ht.1, ht.2]; exact c2, c3, c4, fun k hk z => c5 k hk (by rw [← h0]; exact z), fun k hk z => ?_⟩
  have z2 : σ 0 k ≠ 0 := by rw [← h0]; exact z
  obtain ⟨a, g1, g2, g3⟩ := c6 k hk z2
  refine ⟨a, g1, ?_, zPF_ag (fun g b1 b2 b3 => h2 g k hk z2 b1 b2 b3) (fun s hs => h9 k s hk z2 hs) g3⟩
  rw [g2]
  unfold zPar
  rw [h1 k hk z2]
theorem zPF_ends {σ : zS} {k : Nat} {f : Nat → Int32} {r c v : Int32} (hf : zPF σ k f) : zPF (zEnds σ k r c v) k (zEndF f r c v) := by
  obtain ⟨a0, a2, a3, a4, a5, a6, a7, a8, a10, a11, a12, a13, a14, a15, a16, a17, a18, a19⟩ := hf
  exact ⟨a0, a2, a3, a4, a5, a6, by simp [zEnds, zEndF, zu, upd], fun z => absurd (by simp [zEnds, zu]) z, a10, a11, a12, a13, a14, a15, a16, by simp [zEnds, zEndF, zu, upd], by simp [zEnds, zEndF, zu, upd], by simp [zEnds, zEndF, zu, upd]⟩
theorem zOwn_ends {σ : zS} {k : Nat} {r c v : Int32} : zOwn σ (zEnds σ k r c v) k := ((((zOwn.rf.put (g := 6) (v := 0) (by decide) (by decide) (by decide)).put (g := 18) (v := r) (by decide) (by decide) (by decide)).put (g := 19) (v := c) (by decide) (by decide) (by decide)).put (g := 20) (v := v) (by decide) (by decide) (by decide))
theorem zPF_news {σ : zS} {k : Nat} {f : Nat → Int32} (hf : zPF σ k f) (h4 : σ 4 k = 0) : zPF (zu σ 17 k 0) k (upd f 10 (-1)) := by
  obtain ⟨a0, a2, a3, a4, a5, a6, a7, a8, a10, a11, a12, a13, a14, a15, a16, a17, a18, a19⟩ := hf
  exact ⟨a0, a2, a3, a4, a5, a6, a7, a8, by simp [zu, upd, zRpt, h4], fun z => absurd (by simp [upd]) z, a12, a13, a14, a15, a16, a17, a18, a19⟩
theorem zPF_how {σ : zS} {k : Nat} {f : Nat → Int32} (hf : zPF σ k f) (h4 : σ 4 k ≠ 0) : zPF (zu σ 14 k (-1)) k (upd f 10 (-1)) := by
  obtain ⟨a0, a2, a3, a4, a5, a6, a7, a8, a10, a11, a12, a13, a14, a15, a16, a17, a18, a19⟩ := hf
  have h4' : ¬ σ 4 k = 0 := h4
  exact ⟨a0, a2, a3, a4, a5, a6, a7, a8, by simp [zu, upd, zRpt, h4'], fun z => absurd (by simp [upd]) z, a12, a13, a14, a15, a16, a17, a18, a19⟩
theorem c_clAw (l : Launch) (D : va_G) {B G : zG} {x tb ev : Nat} {A : Nat → Nat} {σ : zS} {q : List zEv} {h m0 : Nat} {p9 k : Nat} (hC : zCl B x tb ev A σ q h m0 G) (hH : zHas σ) (hp : p9 < 41) (hk : k < 41) (hp0 : σ 0 p9 ≠ 0) (hk0 : σ 0 k ≠ 0) (hw : σ 6 p9 ≠ 0) : zMet D l yX1_awaits wsX1_awaits ({ frames := 0, cells := 0, slots := 0, locals := 0 } : Room) [.ref (A p9), .ref (A k)] G (fun v G9 => v = some (.int (zb (zKid σ p9 k))) ∧ G9 = G) := by
  obtain ⟨f, hGp, hPp, _⟩ := hC.at hp hp0
  obtain ⟨g, hGk, hPk, _⟩ := hC.at hk hk0
  by_cases hk1 : k = 1
  · subst hk1
    rw [zPar_1] at hGk
    refine (c_X1_awaitsN (q := 0) l D hGp hGk).imp ?_
    rintro v G9 ⟨rfl, rfl⟩
    exact ⟨zvf (fun z => by have h9 := z.2.1; rw [hH.2.2.2] at h9; exact znm1 hp h9.symm), rfl⟩
  · obtain ⟨j, hj, hj1, hj2, hj3⟩ := hH.2.1 k hk hk0 hk1
    rw [zPar_n hk1 hj hj2 (zTA_y hj3)] at hGk
    refine (c_X1_awaits l D hGp hGk).imp ?_
    rintro v G9 ⟨rfl, rfl⟩
    refine ⟨zvi (zb_congr ?_), rfl⟩
    have h8 := (hPp.2.2.2.2.2.2.2.1 hw).1
    rw [h8, hPk.1]
    show _ ↔ (σ 0 k ≠ 0 ∧ σ 1 k = nI p9 ∧ (σ 7 p9 = -1 ∨ σ 7 p9 = nI k))
    rw [hj]
    exact ⟨fun z => ⟨hk0, by rw [hC.inj hj2 hp hj3 hp0 z.1], z.2⟩, fun z => ⟨by rw [(nI_eq (by omega) (by omega)).mp z.2.1], z.2.2⟩⟩
theorem c_clCan (l : Launch) (D : va_G) {B G : zG} {x tb ev : Nat} {A : Nat → Nat} {σ : zS} {q : List zEv} {h m0 : Nat} {p9 k : Nat} (hC : zCl B x tb ev A σ q h m0 G) (hp : p9 < 41) (hk : k < 41) (hp0 : σ 0 p9 ≠ 0) (hk0 : σ 0 k ≠ 0) (hw : σ 6 p9 ≠ 0) (hhow : σ 4 k ≠ 0 → σ 14 k = 0 ∨ σ 14 k = 1) : zMet D l yX1_canReport wsX1_canReport ({ frames := 0, cells := 0, slots := 0, locals := 0 } : Room) [.ref (A p9), .ref (A k)] G (fun v G9 => v = some (.int (zb (σ 4 k ≠ 0 ∨ (σ 8 p9 ≠ 0 ∧ σ 5 k ≠ 0 ∧ σ 17 k ≠ 0)))) ∧ G9 = G) := by
  obtain ⟨f, hGp, hPp, _⟩ := hC.at hp hp0
  obtain ⟨g, hGk, hPk, _⟩ := hC.at hk hk0
  refine (c_X1_canReport l D hGp hGk).imp ?_
  rintro v G9 ⟨rfl, rfl⟩
  refine ⟨zvi (zb_congr ?_), rfl⟩
  have h9 := (hPp.2.2.2.2.2.2.2.1 hw).2
  have h10 := hPk.2.2.2.2.2.2.2.2.1
  rw [h9, h10]
  unfold zRpt
  by_cases h4 : σ 4 k = 0
  · by_cases h5 : σ 5 k ≠ 0 ∧ σ 17 k ≠ 0
    · simp [h4, h5]
    · simp only [h4, ne_eq, not_true, if_false, h5, false_or]
      exact ⟨fun z => z.1.elim, fun z => z.2.elim⟩
  · rcases hhow h4 with h | h
    · simp [h4, h]
    · simp [h4, h]
theorem c_clRemove (l : Launch) (D : va_G) {B G : zG} {x tb ev : Nat} {A : Nat → Nat} {σ : zS} {q : List zEv} {h m0 : Nat} {k : Nat} (hC : zCl B x tb ev A σ q h m0 G) (hk : 1 ≤ k ∧ k < 41) (hk0 : σ 0 k ≠ 0) (hch : ∀ j, j < 41 → j ≠ k → σ 0 j ≠ 0 → j ≠ 1 → pn (σ 1 j) ≠ k) : zMet D l yX2_remove wsX2_remove ({ frames := 0, cells := 0, slots := 0, locals := 0 } : Room) [.ref x, .ref (A k)] G (fun v G9 => v = none ∧ zCl B x tb ev A (zu σ 0 k 0) q h m0 G9) := by
  have hC0 := hC
  obtain ⟨hm, ka, pa, F, fk, fp, ck, cp, hB⟩ := hC
  refine (c_X2_remove l D hB hk (zTA_y hk0)).imp ?_
  rintro v G9 ⟨rfl, rfl⟩
  exact ⟨rfl, hC0.gone hch⟩
theorem zDead14 {σ : zS} {k j g : Nat} {v : Int32} (h0 : (zu (zu σ 14 k v) 0 k 0) 0 j ≠ 0) : (zu σ 0 k 0) g j = (zu (zu σ 14 k v) 0 k 0) g j := by
  have hj : j ≠ k := fun z => h0 (by simp [zu, z])
  simp [zu, hj]
theorem fl_X2_report_247 : Cond.fieldLink RX2 247 "Signalpost$Proc" "report" "I" ∈ wsX2_report := by decide +kernel
theorem fl_X2_report_151 : Cond.fieldLink RX2 151 "Signalpost$Proc" "pid" "I" ∈ wsX2_report := by decide +kernel
theorem fl_X2_report_250 : Cond.fieldLink RX2 250 "Signalpost$Proc" "value" "I" ∈ wsX2_report := by decide +kernel
theorem fl_X2_report_194 : Cond.fieldLink RX2 194 "Signalpost$Proc" "zombie" "Z" ∈ wsX2_report := by decide +kernel
theorem in_X2_report_X1 : ∀ w ∈ u_ws RX1 TX1 20, w ∈ wsX2_report := by decide +kernel
set_option maxHeartbeats 4000000 in
set_option maxRecDepth 100000 in
theorem c_X2_report (l : Launch) (D : va_G) {B G : zG} {x tb ev : Nat} {A : Nat → Nat} {σ : zS} {q : List zEv} {h m0 : Nat} {p9 k : Nat} (hC : zCl B x tb ev A σ q h m0 G) (hp : p9 < 41) (hk : 1 ≤ k ∧ k < 41) (hp0 : σ 0 p9 ≠ 0) (hk0 : σ 0 k ≠ 0) (hhow : σ 4 k ≠ 0 → σ 14 k = 0 ∨ σ 14 k = 1) (hrep : σ 4 k = 0 → σ 5 k ≠ 0 ∧ σ 17 k ≠ 0) (hch : σ 4 k ≠ 0 → ∀ j, j < 41 → j ≠ k → σ 0 j ≠ 0 → j ≠ 1 → pn (σ 1 j) ≠ k) : zMet D l yX2_report wsX2_report ({ frames := 1, cells := 0, slots := 0, locals := 23 } : Room) [.ref x, .ref (A p9), .ref (A k)] G (fun v G9 => v = none ∧ zCl B x tb ev A (if σ 4 k ≠ 0 then zu (zEnds σ p9 (σ 14 k) (nI k) (σ 15 k)) 0 k 0 else zu (zEnds σ p9 2 (nI k) (σ 16 k)) 17 k 0) q h m0 G9) := by
  refine zMet_of (cc := cX2_report) (maxL := 3) (ret := none) (by decide) rfl (Nat.le_of_ble_eq_true rfl) ?_
  intro p e s m args below meth c C hmn
  obtain ⟨f, hGp, hPp, hup⟩ := hC.at hp hp0
  obtain ⟨g, hGk, hPk, _⟩ := hC.at hk.2 hk0
  by_cases h4 : σ 4 k ≠ 0
  · have hg10 : g 10 = σ 14 k := hPk.2.2.2.2.2.2.2.2.1.trans (if_pos h4)
    have hg11 : g 11 = σ 15 k := (hPk.2.2.2.2.2.2.2.2.2.1 (by rw [hg10]; rcases hhow h4 with z | z <;> rw [z] <;> decide)).trans (if_pos h4)
    refine zz_aload_n (pc := 0) C dX2_report_0 rfl ?_
    refine zz_aload_n (pc := 1) C dX2_report_1 rfl ?_
    refine zz_get (pc := 2) C in_X2_report_X1 (ci := 1) rfl 10 (by decide) (fl_X2_report_247) rfl dX2_report_2 hGk rfl ?_
    refine zz_aload_n (pc := 5) C dX2_report_5 rfl ?_
    refine zz_get (pc := 6) C in_X2_report_X1 (ci := 1) rfl 0 (by decide) (fl_X2_report_151) rfl dX2_report_6 hGk rfl ?_
    refine zz_aload_n (pc := 9) C dX2_report_9 rfl ?_
    refine zz_get (pc := 10) C in_X2_report_X1 (ci := 1) rfl 11 (by decide) (fl_X2_report_250) rfl dX2_report_10 hGk rfl ?_
    refine zz_callV (pc := 13) C (c_X1_endWait l D hGp) gX2_report_X1_endWait rfl 3 (by decide +kernel) ⟨Nat.le_of_ble_eq_true rfl, Nat.le_of_ble_eq_true rfl⟩ hGp (ci := 1) rfl rfl rfl dX2_report_13 rfl (Nat.le_of_ble_eq_true rfl) rfl ⟨Nat.le_of_ble_eq_true rfl, Nat.le_of_ble_eq_true rfl⟩ ?_
    rintro v G9 ⟨rfl, rfl⟩
    rw [hg10, hPk.1, hg11]
    have hC2 := hup _ _ (zOwn_ends (r := (σ 14 k)) (c := nI k) (v := (σ 15 k))) (zPF_ends hPp)
    obtain ⟨g2, hGk2, hPk2, hup2⟩ := hC2.at (k := k) hk.2 hk0
    refine zV.eqG (zU_id hGk2).symm ?_
    refine zz_aload_n (pc := 16) C dX2_report_16 rfl ?_
    refine zz_iconst (pc := 17) C (v := -1) (by decide) dX2_report_17 ?_
    refine zz_pput (pc := 18) C in_X2_report_X1 10 (by decide) (by decide) (by decide) fl_X2_report_247 dX2_report_18 rfl rfl ?_
    have hC3 := hup2 _ _ (zOwn.rf.put (g := 14) (v := -1) (by decide) (by decide) (by decide)) (zPF_how hPk2 h4)
    refine zz_aload_n (pc := 21) C dX2_report_21 rfl ?_
    refine zz_get (pc := 22) C in_X2_report_X1 (ci := 1) rfl 5 (by decide) (fl_X2_report_194) rfl dX2_report_22 zU_self rfl ?_
    refine zz_if_eq (pc := 25) C (tgt := 33) dX2_report_25 (by decide) (fun hc25 => ?_) (fun hc25 => ?_)
    · exact absurd (hPk2.2.2.2.2.1.symm.trans hc25) h4
    · refine zz_aload_n (pc := 28) C dX2_report_28 rfl ?_
      refine zz_aload_n (pc := 29) C dX2_report_29 rfl ?_
      refine zz_callV (pc := 30) C (c_clRemove l D hC3 hk hk0 (hch h4)) gX2_report_X2_remove rfl 1 (by decide +kernel) ⟨Nat.le_of_ble_eq_true rfl, Nat.le_of_ble_eq_true rfl⟩ hC3.x (ci := 2) rfl rfl rfl dX2_report_30 rfl (Nat.le_of_ble_eq_true rfl) rfl ⟨Nat.le_of_ble_eq_true rfl, Nat.le_of_ble_eq_true rfl⟩ ?_
      rintro v G9 ⟨rfl, hC4⟩
      exact zz_return (pc := 33) C dX2_report_33 (Nat.le_refl _) (Nat.le_refl _) ⟨rfl, by rw [if_pos h4]; exact hC4.dead (fun j => rfl) (fun j _ _ => rfl) (fun g j hj h0 h1 h2 h3 => zDead14 h0) (fun j s _ _ _ => rfl) ⟨rfl, rfl⟩⟩
  · have h4 : σ 4 k = 0 := Classical.not_not.mp h4
    have hg10 : g 10 = 2 := hPk.2.2.2.2.2.2.2.2.1.trans ((if_neg (fun z => z h4)).trans (if_pos (hrep h4)))
    have hg11 : g 11 = σ 16 k := (hPk.2.2.2.2.2.2.2.2.2.1 (by rw [hg10]; decide)).trans (if_neg (fun z => z h4))
    refine zz_aload_n (pc := 0) C dX2_report_0 rfl ?_
    refine zz_aload_n (pc := 1) C dX2_report_1 rfl ?_
    refine zz_get (pc := 2) C in_X2_report_X1 (ci := 1) rfl 10 (by decide) (fl_X2_report_247) rfl dX2_report_2 hGk rfl ?_
    refine zz_aload_n (pc := 5) C dX2_report_5 rfl ?_
    refine zz_get (pc := 6) C in_X2_report_X1 (ci := 1) rfl 0 (by decide) (fl_X2_report_151) rfl dX2_report_6 hGk rfl ?_
    refine zz_aload_n (pc := 9) C dX2_report_9 rfl ?_
    refine zz_get (pc := 10) C in_X2_report_X1 (ci := 1) rfl 11 (by decide) (fl_X2_report_250) rfl dX2_report_10 hGk rfl ?_
    refine zz_callV (pc := 13) C (c_X1_endWait l D hGp) gX2_report_X1_endWait rfl 3 (by decide +kernel) ⟨Nat.le_of_ble_eq_true rfl, Nat.le_of_ble_eq_true rfl⟩ hGp (ci := 1) rfl rfl rfl dX2_report_13 rfl (Nat.le_of_ble_eq_true rfl) rfl ⟨Nat.le_of_ble_eq_true rfl, Nat.le_of_ble_eq_true rfl⟩ ?_
    rintro v G9 ⟨rfl, rfl⟩
    rw [hg10, hPk.1, hg11]
    have hC2 := hup _ _ (zOwn_ends (r := 2) (c := nI k) (v := (σ 16 k))) (zPF_ends hPp)
    obtain ⟨g2, hGk2, hPk2, hup2⟩ := hC2.at (k := k) hk.2 hk0
    refine zV.eqG (zU_id hGk2).symm ?_
    refine zz_aload_n (pc := 16) C dX2_report_16 rfl ?_
    refine zz_iconst (pc := 17) C (v := -1) (by decide) dX2_report_17 ?_
    refine zz_pput (pc := 18) C in_X2_report_X1 10 (by decide) (by decide) (by decide) fl_X2_report_247 dX2_report_18 rfl rfl ?_
    have hC3 := hup2 _ _ (zOwn.rf.put (g := 17) (v := 0) (by decide) (by decide) (by decide)) (zPF_news hPk2 h4)
    refine zz_aload_n (pc := 21) C dX2_report_21 rfl ?_
    refine zz_get (pc := 22) C in_X2_report_X1 (ci := 1) rfl 5 (by decide) (fl_X2_report_194) rfl dX2_report_22 zU_self rfl ?_
    refine zz_if_eq (pc := 25) C (tgt := 33) dX2_report_25 (by decide) (fun hc25 => ?_) (fun hc25 => ?_)
    · exact zz_return (pc := 33) C dX2_report_33 (Nat.le_refl _) (Nat.le_refl _) ⟨rfl, by rw [if_neg (fun z => z h4)]; exact hC3⟩
    · exact absurd (hPk2.2.2.2.2.1.trans h4) hc25
