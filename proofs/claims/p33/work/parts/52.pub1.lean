theorem zWf.wset {σ : zS} (h : zWf σ) {p : Nat} {c f : Int32} (h4 : σ 4 p = 0) (h1 : p ≠ 1) (hf : f = 0 ∨ f = 1) : zWf (zWset σ p c f) := by
  have hb := h.b
  have e6 : ∀ k, zWset σ p c f 6 k = if k = p then 1 else σ 6 k := fun k => by simp [zu]
  have e8 : ∀ k, zWset σ p c f 8 k = if k = p then f else σ 8 k := fun k => by simp [zu]
  refine h.own rfl rfl rfl rfl rfl rfl rfl rfl (fun k k0 k4 => ?_) ⟨h.i.1, ?_⟩ (fun k => ⟨(hb k).1, ?_, ?_, (hb k).2.2.2⟩) h.2.2.2.2.2.2.1
  · have hk : k ≠ p := fun z => k4 (by rw [z]; exact h4)
    have := h.2.2.1 k k0 k4
    refine ⟨?_, this.2⟩
    rw [e6, if_neg hk]
    exact this.1
  · rw [e6, if_neg (fun z => h1 z.symm)]
    exact h.i.2
  · rw [e6]
    split
    · exact Or.inr rfl
    · exact (hb k).2.1
  · rw [e8]
    split
    · exact hf
    · exact (hb k).2.2.1
theorem zRunN.live {σ : zS} {k : Nat} (h : ¬ zNot σ k) : k ≠ 1 ∧ σ 4 k = 0 ∧ σ 5 k = 0 ∧ σ 6 k = 0 := by
  have h2 : zRunN σ k := Classical.not_not.mp (fun z => h (Or.inr z))
  exact ⟨fun z => h (Or.inl z), h2⟩
theorem zPF_13 {σ : zS} {k : Nat} {f : Nat → Int32} {v : Int32} (hf : zPF σ k f) : zPF (zu σ 13 k v) k (upd f 4 v) := by
  obtain ⟨a0, a2, a3, a4, a5, a6, a7, a8, a10, a11, a12, a13, a14, a15, a16, a17, a18, a19⟩ := hf
  exact ⟨a0, a2, a3, by simp [zu, upd], a5, a6, a7, a8, a10, a11, a12, a13, a14, a15, a16, a17, a18, a19⟩
theorem zPF_2 {σ : zS} {k : Nat} {f : Nat → Int32} {v : Int32} (hf : zPF σ k f) : zPF (zu σ 2 k v) k (upd f 2 v) := by
  obtain ⟨a0, a2, a3, a4, a5, a6, a7, a8, a10, a11, a12, a13, a14, a15, a16, a17, a18, a19⟩ := hf
  exact ⟨a0, by simp [zu, upd], a3, a4, a5, a6, a7, a8, a10, a11, a12, a13, a14, a15, a16, a17, a18, a19⟩
theorem zPF_3 {σ : zS} {k : Nat} {f : Nat → Int32} {v : Int32} (hf : zPF σ k f) : zPF (zu σ 3 k v) k (upd f 3 v) := by
  obtain ⟨a0, a2, a3, a4, a5, a6, a7, a8, a10, a11, a12, a13, a14, a15, a16, a17, a18, a19⟩ := hf
  exact ⟨a0, a2, by simp [zu, upd], a4, a5, a6, a7, a8, a10, a11, a12, a13, a14, a15, a16, a17, a18, a19⟩
theorem zOwn_g {σ : zS} {k g : Nat} {v : Int32} (h1 : 2 ≤ g) (h2 : g ≤ 20) (h9 : g ≠ 9) : zOwn σ (zu σ g k v) k := zOwn.rf.put (g := g) (v := v) h1 h2 h9
theorem zUpdC {f : Nat → Int32} {a b : Nat} {v w : Int32} (h : a ≠ b) : upd (upd f a v) b w = upd (upd f b w) a v := by
  funext j
  simp only [upd]
  by_cases h1 : j = a
  · by_cases h2 : j = b
    · exact absurd (h1.symm.trans h2) h
    · simp [h1, h]
  · simp [h1]

set_option maxHeartbeats 4000000 in
set_option maxRecDepth 100000 in
theorem c_X2_waitAny (l : Launch) (hl : l.stackTraces = false) (D : va_G) {B G : zG} {x tb ev : Nat} {A : Nat → Nat} {σ : zS} {q : List zEv} {h m0 : Nat} {x9 f9 : Int32} (hC : zCl B x tb ev A σ q h m0 G) (hW : zWf σ) (hf9 : f9 = 0 ∨ f9 = 1) : zxMet D l yX2_waitAny wsX2_waitAny ({ frames := 7, cells := 2, slots := 12, locals := 112 } : Room) [.ref x, .int x9, .int f9] G (fun v G9 => zE2 (¬ zHere σ x9) (zNot σ (pn x9)) = 0 ∧ v = some (.int (zb ((zCheck (zWset σ (pn x9) (-1) f9) (pn x9)) 6 (pn x9) = 0))) ∧ zCl B x tb ev A (zCheck (zWset σ (pn x9) (-1) f9) (pn x9)) q h m0 G9) (fun E => (zE2 (¬ zHere σ x9) (zNot σ (pn x9)) = 1 ∧ E = "java/lang/IndexOutOfBoundsException") ∨ (zE2 (¬ zHere σ x9) (zNot σ (pn x9)) = 2 ∧ E = "java/lang/IllegalStateException")) := by
  refine zxMet_of (cc := cX2_waitAny) (maxL := 4) (ret := (some .boolean)) (by decide) rfl (Nat.le_of_ble_eq_true rfl) ?_
  intro p e s m args below meth c C hnx h8
  refine zz_aload_n (pc := 0) C dX2_waitAny_0 rfl ?_
  refine zz_iload_n (pc := 1) C dX2_waitAny_1 rfl ?_
  refine zzx_callV (pc := 2) C h8 (c_X2_find l hl D hC (x9 := x9)) gX2_waitAny_X2_find rfl 1 (by decide +kernel) ⟨Nat.le_of_ble_eq_true rfl, Nat.le_of_ble_eq_true rfl⟩ hC.x (ci := 2) rfl rfl rfl dX2_waitAny_2 rfl (Nat.le_of_ble_eq_true rfl) rfl ⟨Nat.le_of_ble_eq_true rfl, Nat.le_of_ble_eq_true rfl⟩ (fun E hE => zzx_out C hnx (Or.inl ⟨zE2_1 hE.1, hE.2⟩) (Nat.le_of_ble_eq_true rfl) (Nat.le_of_ble_eq_true rfl)) ?_
  rintro v G9 ⟨hth, rfl, rfl⟩
  obtain ⟨hx1, hx2, hx3⟩ := hth.at
  obtain ⟨f, hGa, hPF, hup⟩ := hC.at (k := pn x9) hx3 hth.2.2
  refine zz_astore_n (pc := 5) C dX2_waitAny_5 (Nat.le_of_ble_eq_true rfl) ?_
  refine zz_aload_n (pc := 6) C dX2_waitAny_6 rfl ?_
  refine zzx_callS (pc := 7) C h8 (c_X2_requireCaller l hl D hC (k := pn x9) hx3 hth.2.2) gX2_waitAny_X2_requireCaller rfl 1 (by decide +kernel) ⟨Nat.le_of_ble_eq_true rfl, Nat.le_of_ble_eq_true rfl⟩ rfl dX2_waitAny_7 rfl (Nat.le_of_ble_eq_true rfl) rfl ⟨Nat.le_of_ble_eq_true rfl, Nat.le_of_ble_eq_true rfl⟩ (fun E hE => zzx_out C hnx (Or.inr ⟨zE2_2 (fun z => z hth) hE.1, hE.2⟩) (Nat.le_of_ble_eq_true rfl) (Nat.le_of_ble_eq_true rfl)) ?_
  rintro v G9 ⟨hnot, rfl, rfl⟩
  obtain ⟨hl1, hl4, hl5, hl6⟩ := zRunN.live hnot
  refine zz_aload_n (pc := 10) C dX2_waitAny_10 rfl ?_
  refine zz_aload_n (pc := 11) C dX2_waitAny_11 rfl ?_
  refine zz_iconst (pc := 12) C (v := -1) (by decide) dX2_waitAny_12 ?_
  refine zz_iload_n (pc := 13) C dX2_waitAny_13 rfl ?_
  have hWs : zWf (zWset σ (pn x9) (-1) f9) := hW.wset hl4 hl1 hf9
  refine zz_callV (pc := 14) C (c_X2_beginWait l D (p9 := pn x9) (c9 := (-1)) (f9 := f9) hC hWs.has hWs.wt hx3 hth.2.2 (zCheck_stay hWs hth.2.2) hf9) gX2_waitAny_X2_beginWait rfl 3 (by decide +kernel) ⟨Nat.le_of_ble_eq_true rfl, Nat.le_of_ble_eq_true rfl⟩ hC.x (ci := 2) rfl rfl rfl dX2_waitAny_14 rfl (Nat.le_of_ble_eq_true rfl) rfl ⟨Nat.le_of_ble_eq_true rfl, Nat.le_of_ble_eq_true rfl⟩ ?_
  rintro v G9 ⟨rfl, hC2⟩
  exact zzx_ret (zz_ireturn (pc := 17) C dX2_waitAny_17 zb_nar (Nat.le_of_ble_eq_true rfl) (Nat.le_of_ble_eq_true rfl) ⟨zE2_0 (fun z => z hth) hnot, rfl, hC2⟩)

set_option maxHeartbeats 4000000 in
set_option maxRecDepth 100000 in
theorem c_X2_waitFor (l : Launch) (hl : l.stackTraces = false) (D : va_G) {B G : zG} {x tb ev : Nat} {A : Nat → Nat} {σ : zS} {q : List zEv} {h m0 : Nat} {x9 c9 f9 : Int32} (hC : zCl B x tb ev A σ q h m0 G) (hW : zWf σ) (hf9 : f9 = 0 ∨ f9 = 1) : zxMet D l yX2_waitFor wsX2_waitFor ({ frames := 8, cells := 3, slots := 18, locals := 132 } : Room) [.ref x, .int x9, .int c9, .int f9] G (fun v G9 => zE3 (¬ zHere σ x9) (c9 < 1 ∨ (40 : Int32) < c9) (zNot σ (pn x9)) = 0 ∧ v = some (.int (zb ((zCheck (zWset σ (pn x9) c9 f9) (pn x9)) 6 (pn x9) = 0))) ∧ zCl B x tb ev A (zCheck (zWset σ (pn x9) c9 f9) (pn x9)) q h m0 G9) (fun E => (zE3 (¬ zHere σ x9) (c9 < 1 ∨ (40 : Int32) < c9) (zNot σ (pn x9)) = 1 ∧ E = "java/lang/IndexOutOfBoundsException") ∨ (zE3 (¬ zHere σ x9) (c9 < 1 ∨ (40 : Int32) < c9) (zNot σ (pn x9)) = 2 ∧ E = "java/lang/IllegalArgumentException") ∨ (zE3 (¬ zHere σ x9) (c9 < 1 ∨ (40 : Int32) < c9) (zNot σ (pn x9)) = 3 ∧ E = "java/lang/IllegalStateException")) := by
  refine zxMet_of (cc := cX2_waitFor) (maxL := 5) (ret := (some .boolean)) (by decide) rfl (Nat.le_of_ble_eq_true rfl) ?_
  intro p e s m args below meth c C hnx h8
  refine zz_aload_n (pc := 0) C dX2_waitFor_0 rfl ?_
  refine zz_iload_n (pc := 1) C dX2_waitFor_1 rfl ?_
  refine zzx_callV (pc := 2) C h8 (c_X2_find l hl D hC (x9 := x9)) gX2_waitFor_X2_find rfl 1 (by decide +kernel) ⟨Nat.le_of_ble_eq_true rfl, Nat.le_of_ble_eq_true rfl⟩ hC.x (ci := 2) rfl rfl rfl dX2_waitFor_2 rfl (Nat.le_of_ble_eq_true rfl) rfl ⟨Nat.le_of_ble_eq_true rfl, Nat.le_of_ble_eq_true rfl⟩ (fun E hE => zzx_out C hnx (Or.inl ⟨zE3_1 hE.1, hE.2⟩) (Nat.le_of_ble_eq_true rfl) (Nat.le_of_ble_eq_true rfl)) ?_
  rintro v G9 ⟨hth, rfl, rfl⟩
  obtain ⟨hx1, hx2, hx3⟩ := hth.at
  obtain ⟨f, hGa, hPF, hup⟩ := hC.at (k := pn x9) hx3 hth.2.2
  refine zz_astore (pc := 5) C dX2_waitFor_5 (Nat.le_of_ble_eq_true rfl) ?_
  refine zz_iload_n (pc := 7) C dX2_waitFor_7 rfl ?_
  refine zzx_callS (pc := 8) C h8 (c_X2_requireNumber l hl D (v9 := c9)) gX2_waitFor_X2_requireNumber rfl 1 (by decide +kernel) ⟨Nat.le_of_ble_eq_true rfl, Nat.le_of_ble_eq_true rfl⟩ rfl dX2_waitFor_8 rfl (Nat.le_of_ble_eq_true rfl) rfl ⟨Nat.le_of_ble_eq_true rfl, Nat.le_of_ble_eq_true rfl⟩ (fun E hE => zzx_out C hnx (Or.inr (Or.inl ⟨zE3_2 (fun z => z hth) hE.1, hE.2⟩)) (Nat.le_of_ble_eq_true rfl) (Nat.le_of_ble_eq_true rfl)) ?_
  rintro v G9 ⟨hrr, rfl, rfl⟩
  refine zz_aload (pc := 11) C dX2_waitFor_11 rfl ?_
  refine zzx_callS (pc := 13) C h8 (c_X2_requireCaller l hl D hC (k := pn x9) hx3 hth.2.2) gX2_waitFor_X2_requireCaller rfl 1 (by decide +kernel) ⟨Nat.le_of_ble_eq_true rfl, Nat.le_of_ble_eq_true rfl⟩ rfl dX2_waitFor_13 rfl (Nat.le_of_ble_eq_true rfl) rfl ⟨Nat.le_of_ble_eq_true rfl, Nat.le_of_ble_eq_true rfl⟩ (fun E hE => zzx_out C hnx (Or.inr (Or.inr ⟨zE3_3 (fun z => z hth) hrr hE.1, hE.2⟩)) (Nat.le_of_ble_eq_true rfl) (Nat.le_of_ble_eq_true rfl)) ?_
  rintro v G9 ⟨hnot, rfl, rfl⟩
  obtain ⟨hl1, hl4, hl5, hl6⟩ := zRunN.live hnot
  refine zz_aload_n (pc := 16) C dX2_waitFor_16 rfl ?_
  refine zz_aload (pc := 17) C dX2_waitFor_17 rfl ?_
  refine zz_iload_n (pc := 19) C dX2_waitFor_19 rfl ?_
  refine zz_iload_n (pc := 20) C dX2_waitFor_20 rfl ?_
  have hWs : zWf (zWset σ (pn x9) c9 f9) := hW.wset hl4 hl1 hf9
  refine zz_callV (pc := 21) C (c_X2_beginWait l D (p9 := pn x9) (c9 := c9) (f9 := f9) hC hWs.has hWs.wt hx3 hth.2.2 (zCheck_stay hWs hth.2.2) hf9) gX2_waitFor_X2_beginWait rfl 3 (by decide +kernel) ⟨Nat.le_of_ble_eq_true rfl, Nat.le_of_ble_eq_true rfl⟩ hC.x (ci := 2) rfl rfl rfl dX2_waitFor_21 rfl (Nat.le_of_ble_eq_true rfl) rfl ⟨Nat.le_of_ble_eq_true rfl, Nat.le_of_ble_eq_true rfl⟩ ?_
  rintro v G9 ⟨rfl, hC2⟩
  exact zzx_ret (zz_ireturn (pc := 24) C dX2_waitFor_24 zb_nar (Nat.le_of_ble_eq_true rfl) (Nat.le_of_ble_eq_true rfl) ⟨zE3_0 (fun z => z hth) hrr hnot, rfl, hC2⟩)
theorem fl_X2_setReaper_119 : Cond.fieldLink RX2 119 "Signalpost$Proc" "reaper" "Z" ∈ wsX2_setReaper := by decide +kernel
theorem in_X2_setReaper_X1 : ∀ w ∈ u_ws RX1 TX1 20, w ∈ wsX2_setReaper := by decide +kernel
set_option maxHeartbeats 4000000 in
set_option maxRecDepth 100000 in
theorem c_X2_setReaper (l : Launch) (hl : l.stackTraces = false) (D : va_G) {B G : zG} {x tb ev : Nat} {A : Nat → Nat} {σ : zS} {q : List zEv} {h m0 : Nat} {x9 f9 : Int32} (hC : zCl B x tb ev A σ q h m0 G) (hW : zWf σ) (hf9 : f9 = 0 ∨ f9 = 1) : zxMet D l yX2_setReaper wsX2_setReaper ({ frames := 7, cells := 2, slots := 12, locals := 112 } : Room) [.ref x, .int x9, .int f9] G (fun v G9 => zE2 (¬ zHere σ x9) (zNot σ (pn x9)) = 0 ∧ v = some (.int (σ 13 (pn x9))) ∧ zCl B x tb ev A (zu σ 13 (pn x9) f9) q h m0 G9) (fun E => (zE2 (¬ zHere σ x9) (zNot σ (pn x9)) = 1 ∧ E = "java/lang/IndexOutOfBoundsException") ∨ (zE2 (¬ zHere σ x9) (zNot σ (pn x9)) = 2 ∧ E = "java/lang/IllegalStateException")) := by
  refine zxMet_of (cc := cX2_setReaper) (maxL := 5) (ret := (some .boolean)) (by decide) rfl (Nat.le_of_ble_eq_true rfl) ?_
  intro p e s m args below meth c C hnx h8
  refine zz_aload_n (pc := 0) C dX2_setReaper_0 rfl ?_
  refine zz_iload_n (pc := 1) C dX2_setReaper_1 rfl ?_
  refine zzx_callV (pc := 2) C h8 (c_X2_find l hl D hC (x9 := x9)) gX2_setReaper_X2_find rfl 1 (by decide +kernel) ⟨Nat.le_of_ble_eq_true rfl, Nat.le_of_ble_eq_true rfl⟩ hC.x (ci := 2) rfl rfl rfl dX2_setReaper_2 rfl (Nat.le_of_ble_eq_true rfl) rfl ⟨Nat.le_of_ble_eq_true rfl, Nat.le_of_ble_eq_true rfl⟩ (fun E hE => zzx_out C hnx (Or.inl ⟨zE2_1 hE.1, hE.2⟩) (Nat.le_of_ble_eq_true rfl) (Nat.le_of_ble_eq_true rfl)) ?_
  rintro v G9 ⟨hth, rfl, rfl⟩
  obtain ⟨hx1, hx2, hx3⟩ := hth.at
  obtain ⟨f, hGa, hPF, hup⟩ := hC.at (k := pn x9) hx3 hth.2.2
  refine zz_astore_n (pc := 5) C dX2_setReaper_5 (Nat.le_of_ble_eq_true rfl) ?_
  refine zz_aload_n (pc := 6) C dX2_setReaper_6 rfl ?_
  refine zzx_callS (pc := 7) C h8 (c_X2_requireCaller l hl D hC (k := pn x9) hx3 hth.2.2) gX2_setReaper_X2_requireCaller rfl 1 (by decide +kernel) ⟨Nat.le_of_ble_eq_true rfl, Nat.le_of_ble_eq_true rfl⟩ rfl dX2_setReaper_7 rfl (Nat.le_of_ble_eq_true rfl) rfl ⟨Nat.le_of_ble_eq_true rfl, Nat.le_of_ble_eq_true rfl⟩ (fun E hE => zzx_out C hnx (Or.inr ⟨zE2_2 (fun z => z hth) hE.1, hE.2⟩) (Nat.le_of_ble_eq_true rfl) (Nat.le_of_ble_eq_true rfl)) ?_
  rintro v G9 ⟨hnot, rfl, rfl⟩
  obtain ⟨hl1, hl4, hl5, hl6⟩ := zRunN.live hnot
  refine zz_aload_n (pc := 10) C dX2_setReaper_10 rfl ?_
  refine zz_get (pc := 11) C in_X2_setReaper_X1 (ci := 1) rfl 4 (by decide) (fl_X2_setReaper_119) rfl dX2_setReaper_11 hGa rfl ?_
  refine zz_istore (pc := 14) C dX2_setReaper_14 (Nat.le_of_ble_eq_true rfl) ?_
  refine zz_aload_n (pc := 16) C dX2_setReaper_16 rfl ?_
  refine zz_iload_n (pc := 17) C dX2_setReaper_17 rfl ?_
  refine zV.eqG (zU_id hGa).symm ?_
  refine zz_pput (pc := 18) C in_X2_setReaper_X1 4 (by decide) (by decide) (by decide) fl_X2_setReaper_119 dX2_setReaper_18 (by rcases hf9 with rfl | rfl <;> rfl) (by rcases hf9 with rfl | rfl <;> rfl) ?_
  have hC2 := hup _ _ (zOwn_g (g := 13) (v := f9) (by decide) (by decide) (by decide)) (zPF_13 hPF)
  refine zz_iload (pc := 21) C dX2_setReaper_21 rfl ?_
  exact zzx_ret (zz_ireturn (pc := 23) C dX2_setReaper_23 (by rw [hPF.2.2.2.1]; rcases hW.2.2.2.2.2.1 (pn x9) with ⟨_, _, _, _, _, u, _⟩; rcases u with u | u <;> rw [u] <;> rfl) (Nat.le_of_ble_eq_true rfl) (Nat.le_of_ble_eq_true rfl) ⟨zE2_0 (fun z => z hth) hnot, by rw [hPF.2.2.2.1], hC2⟩)
theorem c_clGrp (l : Launch) (D : va_G) {B G : zG} {x tb ev : Nat} {A : Nat → Nat} {σ : zS} {q : List zEv} {h m0 : Nat} {g9 : Int32} (hC : zCl B x tb ev A σ q h m0 G) : zMet D l yX2_isGroupOfAny wsX2_isGroupOfAny ({ frames := 0, cells := 0, slots := 0, locals := 0 } : Room) [.ref x, .int g9] G (fun v G9 => v = some (.int (zb (zIsGrp σ g9 41))) ∧ G9 = G) := by
  obtain ⟨hm, ka, pa, F, fk, fp, ck, cp, hB⟩ := hC
  exact c_X2_isGroupOfAny l D hB
theorem c_clMem (l : Launch) (D : va_G) {B G : zG} {x tb ev : Nat} {A : Nat → Nat} {σ : zS} {q : List zEv} {h m0 : Nat} {g9 s9 : Int32} (hC : zCl B x tb ev A σ q h m0 G) : zMet D l yX2_hasMemberIn wsX2_hasMemberIn ({ frames := 1, cells := 0, slots := 0, locals := 21 } : Room) [.ref x, .int g9, .int s9] G (fun v G9 => v = some (.int (zb (zIsIn σ g9 s9 41))) ∧ G9 = G) := by
  obtain ⟨hm, ka, pa, F, fk, fp, ck, cp, hB⟩ := hC
  exact c_X2_hasMemberIn l D hB
theorem fl_X2_beginSession_103 : Cond.fieldLink RX2 103 "Signalpost$Proc" "group" "I" ∈ wsX2_beginSession := by decide +kernel
theorem fl_X2_beginSession_106 : Cond.fieldLink RX2 106 "Signalpost$Proc" "session" "I" ∈ wsX2_beginSession := by decide +kernel
theorem in_X2_beginSession_X1 : ∀ w ∈ u_ws RX1 TX1 20, w ∈ wsX2_beginSession := by decide +kernel
theorem kc_X2_beginSession_43 : Cond.classLink RX2 43 "java/lang/IllegalStateException" ∈ wsX2_beginSession := by decide +kernel
theorem ki_X2_beginSession_43 : Cond.initialized "java/lang/IllegalStateException" ∈ wsX2_beginSession := by decide +kernel
theorem ka_X2_beginSession_43 : ∀ w ∈ (vx_atS RX2 47 "java/lang/IllegalStateException" ["java/lang/RuntimeException", "java/lang/Exception"]).filter goodWord, w ∈ wsX2_beginSession := by decide +kernel
theorem kb_X2_beginSession_43 : ∀ w ∈ (vx_atS RX2 47 "java/lang/IllegalStateException" ["java/lang/RuntimeException", "java/lang/Exception"]).filter (fun w => !goodWord w), w ∈ zFaces := by decide +kernel
theorem kg_X2_beginSession_43 : ∀ w ∈ Cond.classLink RX2 43 "java/lang/IllegalStateException" :: Cond.initialized "java/lang/IllegalStateException" :: vx_atS RX2 47 "java/lang/IllegalStateException" ["java/lang/RuntimeException", "java/lang/Exception"], vx_ot w = true := by decide +kernel
set_option maxHeartbeats 4000000 in
set_option maxRecDepth 100000 in
theorem c_X2_beginSession (l : Launch) (hl : l.stackTraces = false) (D : va_G) {B G : zG} {x tb ev : Nat} {A : Nat → Nat} {σ : zS} {q : List zEv} {h m0 : Nat} {x9 : Int32} (hC : zCl B x tb ev A σ q h m0 G)  : zxMet D l yX2_beginSession wsX2_beginSession ({ frames := 7, cells := 3, slots := 18, locals := 112 } : Room) [.ref x, .int x9] G (fun v G9 => zE2 (¬ zHere σ x9) (zNot σ (pn x9) ∨ zIsGrp σ x9 41) = 0 ∧ v = none ∧ zCl B x tb ev A (zu (zu σ 3 (pn x9) x9) 2 (pn x9) x9) q h m0 G9) (fun E => (zE2 (¬ zHere σ x9) (zNot σ (pn x9) ∨ zIsGrp σ x9 41) = 1 ∧ E = "java/lang/IndexOutOfBoundsException") ∨ (zE2 (¬ zHere σ x9) (zNot σ (pn x9) ∨ zIsGrp σ x9 41) = 2 ∧ E = "java/lang/IllegalStateException")) := by
  refine zxMet_of (cc := cX2_beginSession) (maxL := 3) (ret := none) (by decide) rfl (Nat.le_of_ble_eq_true rfl) ?_
  intro p e s m args below meth c C hnx h8
  refine zz_aload_n (pc := 0) C dX2_beginSession_0 rfl ?_
  refine zz_iload_n (pc := 1) C dX2_beginSession_1 rfl ?_
  refine zzx_callV (pc := 2) C h8 (c_X2_find l hl D hC (x9 := x9)) gX2_beginSession_X2_find rfl 1 (by decide +kernel) ⟨Nat.le_of_ble_eq_true rfl, Nat.le_of_ble_eq_true rfl⟩ hC.x (ci := 2) rfl rfl rfl dX2_beginSession_2 rfl (Nat.le_of_ble_eq_true rfl) rfl ⟨Nat.le_of_ble_eq_true rfl, Nat.le_of_ble_eq_true rfl⟩ (fun E hE => zzx_out C hnx (Or.inl ⟨zE2_1 hE.1, hE.2⟩) (Nat.le_of_ble_eq_true rfl) (Nat.le_of_ble_eq_true rfl)) ?_
  rintro v G9 ⟨hth, rfl, rfl⟩
  obtain ⟨hx1, hx2, hx3⟩ := hth.at
  obtain ⟨f, hGa, hPF, hup⟩ := hC.at (k := pn x9) hx3 hth.2.2
  refine zz_astore_n (pc := 5) C dX2_beginSession_5 (Nat.le_of_ble_eq_true rfl) ?_
  refine zz_aload_n (pc := 6) C dX2_beginSession_6 rfl ?_
  refine zzx_callS (pc := 7) C h8 (c_X2_requireCaller l hl D hC (k := pn x9) hx3 hth.2.2) gX2_beginSession_X2_requireCaller rfl 1 (by decide +kernel) ⟨Nat.le_of_ble_eq_true rfl, Nat.le_of_ble_eq_true rfl⟩ rfl dX2_beginSession_7 rfl (Nat.le_of_ble_eq_true rfl) rfl ⟨Nat.le_of_ble_eq_true rfl, Nat.le_of_ble_eq_true rfl⟩ (fun E hE => zzx_out C hnx (Or.inr ⟨zE2_2 (fun z => z hth) (Or.inl hE.1), hE.2⟩) (Nat.le_of_ble_eq_true rfl) (Nat.le_of_ble_eq_true rfl)) ?_
  rintro v G9 ⟨hnot, rfl, rfl⟩
  obtain ⟨hl1, hl4, hl5, hl6⟩ := zRunN.live hnot
  refine zz_aload_n (pc := 10) C dX2_beginSession_10 rfl ?_
  refine zz_iload_n (pc := 11) C dX2_beginSession_11 rfl ?_
  refine zz_callV (pc := 12) C (c_clGrp l D (g9 := x9) hC) gX2_beginSession_X2_isGroupOfAny rfl 1 (by decide +kernel) ⟨Nat.le_of_ble_eq_true rfl, Nat.le_of_ble_eq_true rfl⟩ hC.x (ci := 2) rfl rfl rfl dX2_beginSession_12 rfl (Nat.le_of_ble_eq_true rfl) rfl ⟨Nat.le_of_ble_eq_true rfl, Nat.le_of_ble_eq_true rfl⟩ ?_
  rintro v G9 ⟨rfl, rfl⟩
  refine zz_if_eq (pc := 15) C (tgt := 28) dX2_beginSession_15 (by decide) (fun hc15 => ?_) (fun hc15 => ?_)
  · refine zz_aload_n (pc := 28) C dX2_beginSession_28 rfl ?_
    refine zz_iload_n (pc := 29) C dX2_beginSession_29 rfl ?_
    refine zV.eqG (zU_id hGa).symm ?_
    refine zz_pput (pc := 30) C in_X2_beginSession_X1 2 (by decide) (by decide) (by decide) fl_X2_beginSession_103 dX2_beginSession_30 rfl rfl ?_
    refine zz_aload_n (pc := 33) C dX2_beginSession_33 rfl ?_
    refine zz_iload_n (pc := 34) C dX2_beginSession_34 rfl ?_
    refine zz_pput (pc := 35) C in_X2_beginSession_X1 3 (by decide) (by decide) (by decide) fl_X2_beginSession_106 dX2_beginSession_35 rfl rfl ?_
    have hC2 := hup _ _ ((zOwn_g (g := 3) (v := x9) (by decide) (by decide) (by decide)).put (g := 2) (v := x9) (by decide) (by decide) (by decide)) (zPF_2 (v := x9) (zPF_3 (v := x9) hPF))
    rw [zUpdC (by decide)] at hC2
    exact zzx_ret (zz_return (pc := 38) C dX2_beginSession_38 (Nat.le_of_ble_eq_true rfl) (Nat.le_of_ble_eq_true rfl) ⟨zE2_0 (fun z => z hth) (fun z => z.elim hnot (zb_eq.mp hc15)), rfl, hC2⟩)
  · exact zzx_throw (pc := 18) (cls := "java/lang/IllegalStateException") (text := "a process has the group with this number") (names := ["java/lang/RuntimeException", "java/lang/Exception"]) C hnx h8 hl rfl (Or.inr ⟨zE2_2 (fun z => z hth) (Or.inr (zbp hc15)), rfl⟩) (by decide) (by decide) (by decide) kc_X2_beginSession_43 ki_X2_beginSession_43 ka_X2_beginSession_43 kb_X2_beginSession_43 kg_X2_beginSession_43 dX2_beginSession_18 dX2_beginSession_21 dX2_beginSession_22 dX2_beginSession_24 dX2_beginSession_27 rfl (by decide) (by decide) (Nat.le_of_ble_eq_true rfl) (Nat.le_of_ble_eq_true rfl)
theorem zCl.top {B : zG} {x tb ev : Nat} {A : Nat → Nat} {σ : zS} {q : List zEv} {h m0 : Nat} {G : zG} {a b : Int32} (hC : zCl B x tb ev A σ q h m0 G) : zCl B x tb ev A (zu (zu σ 21 0 a) 22 0 b) q h m0 (zU G x (1, .inr (2, [.ref tb, .ref ev, .int a, .int b]))) := by
  obtain ⟨hm, ka, pa, F, fk, fp, ck, cp, hB⟩ := hC
  exact ⟨hm, ka, pa, F, fk, fp, ck, cp, zCls_top2 hB⟩
theorem zCl.top22 {B : zG} {x tb ev : Nat} {A : Nat → Nat} {σ : zS} {q : List zEv} {h m0 : Nat} {G : zG} {b : Int32} (hC : zCl B x tb ev A σ q h m0 G) : zCl B x tb ev A (zu σ 22 0 b) q h m0 (zU G x (1, .inr (2, [.ref tb, .ref ev, .int (σ 21 0), .int b]))) := by
  have h9 := hC.top (a := σ 21 0) (b := b)
  rw [zu_id] at h9
  exact h9
theorem fl_X2_openTerminal_22 : Cond.fieldLink RX2 22 "Signalpost" "terminalHolder" "I" ∈ wsX2_openTerminal := by decide +kernel
theorem fl_X2_openTerminal_106 : Cond.fieldLink RX2 106 "Signalpost$Proc" "session" "I" ∈ wsX2_openTerminal := by decide +kernel
theorem fl_X2_openTerminal_103 : Cond.fieldLink RX2 103 "Signalpost$Proc" "group" "I" ∈ wsX2_openTerminal := by decide +kernel
theorem fl_X2_openTerminal_26 : Cond.fieldLink RX2 26 "Signalpost" "foregroundGroup" "I" ∈ wsX2_openTerminal := by decide +kernel
theorem in_X2_openTerminal_X1 : ∀ w ∈ u_ws RX1 TX1 20, w ∈ wsX2_openTerminal := by decide +kernel
theorem in_X2_openTerminal_X2 : ∀ w ∈ u_ws RX2 TX2 4, w ∈ wsX2_openTerminal := by decide +kernel
theorem kc_X2_openTerminal_43 : Cond.classLink RX2 43 "java/lang/IllegalStateException" ∈ wsX2_openTerminal := by decide +kernel
theorem ki_X2_openTerminal_43 : Cond.initialized "java/lang/IllegalStateException" ∈ wsX2_openTerminal := by decide +kernel
theorem ka_X2_openTerminal_43 : ∀ w ∈ (vx_atS RX2 47 "java/lang/IllegalStateException" ["java/lang/RuntimeException", "java/lang/Exception"]).filter goodWord, w ∈ wsX2_openTerminal := by decide +kernel
theorem kb_X2_openTerminal_43 : ∀ w ∈ (vx_atS RX2 47 "java/lang/IllegalStateException" ["java/lang/RuntimeException", "java/lang/Exception"]).filter (fun w => !goodWord w), w ∈ zFaces := by decide +kernel
theorem kg_X2_openTerminal_43 : ∀ w ∈ Cond.classLink RX2 43 "java/lang/IllegalStateException" :: Cond.initialized "java/lang/IllegalStateException" :: vx_atS RX2 47 "java/lang/IllegalStateException" ["java/lang/RuntimeException", "java/lang/Exception"], vx_ot w = true := by decide +kernel
set_option maxHeartbeats 4000000 in
set_option maxRecDepth 100000 in
theorem c_X2_openTerminal (l : Launch) (hl : l.stackTraces = false) (D : va_G) {B G : zG} {x tb ev : Nat} {A : Nat → Nat} {σ : zS} {q : List zEv} {h m0 : Nat} {x9 : Int32} (hC : zCl B x tb ev A σ q h m0 G)  : zxMet D l yX2_openTerminal wsX2_openTerminal ({ frames := 7, cells := 3, slots := 18, locals := 112 } : Room) [.ref x, .int x9] G (fun v G9 => zE2 (¬ zHere σ x9) (zNot σ (pn x9) ∨ σ 3 (pn x9) ≠ x9 ∨ σ 21 0 ≠ -1) = 0 ∧ v = none ∧ zCl B x tb ev A (zu (zu σ 21 0 x9) 22 0 (σ 2 (pn x9))) q h m0 G9) (fun E => (zE2 (¬ zHere σ x9) (zNot σ (pn x9) ∨ σ 3 (pn x9) ≠ x9 ∨ σ 21 0 ≠ -1) = 1 ∧ E = "java/lang/IndexOutOfBoundsException") ∨ (zE2 (¬ zHere σ x9) (zNot σ (pn x9) ∨ σ 3 (pn x9) ≠ x9 ∨ σ 21 0 ≠ -1) = 2 ∧ E = "java/lang/IllegalStateException")) := by
  refine zxMet_of (cc := cX2_openTerminal) (maxL := 3) (ret := none) (by decide) rfl (Nat.le_of_ble_eq_true rfl) ?_
  intro p e s m args below meth c C hnx h8
  refine zz_aload_n (pc := 0) C dX2_openTerminal_0 rfl ?_
  refine zz_iload_n (pc := 1) C dX2_openTerminal_1 rfl ?_
  refine zzx_callV (pc := 2) C h8 (c_X2_find l hl D hC (x9 := x9)) gX2_openTerminal_X2_find rfl 1 (by decide +kernel) ⟨Nat.le_of_ble_eq_true rfl, Nat.le_of_ble_eq_true rfl⟩ hC.x (ci := 2) rfl rfl rfl dX2_openTerminal_2 rfl (Nat.le_of_ble_eq_true rfl) rfl ⟨Nat.le_of_ble_eq_true rfl, Nat.le_of_ble_eq_true rfl⟩ (fun E hE => zzx_out C hnx (Or.inl ⟨zE2_1 hE.1, hE.2⟩) (Nat.le_of_ble_eq_true rfl) (Nat.le_of_ble_eq_true rfl)) ?_
  rintro v G9 ⟨hth, rfl, rfl⟩
  obtain ⟨hx1, hx2, hx3⟩ := hth.at
  obtain ⟨f, hGa, hPF, hup⟩ := hC.at (k := pn x9) hx3 hth.2.2
  refine zz_astore_n (pc := 5) C dX2_openTerminal_5 (Nat.le_of_ble_eq_true rfl) ?_
  refine zz_aload_n (pc := 6) C dX2_openTerminal_6 rfl ?_
  refine zzx_callS (pc := 7) C h8 (c_X2_requireCaller l hl D hC (k := pn x9) hx3 hth.2.2) gX2_openTerminal_X2_requireCaller rfl 1 (by decide +kernel) ⟨Nat.le_of_ble_eq_true rfl, Nat.le_of_ble_eq_true rfl⟩ rfl dX2_openTerminal_7 rfl (Nat.le_of_ble_eq_true rfl) rfl ⟨Nat.le_of_ble_eq_true rfl, Nat.le_of_ble_eq_true rfl⟩ (fun E hE => zzx_out C hnx (Or.inr ⟨zE2_2 (fun z => z hth) (Or.inl hE.1), hE.2⟩) (Nat.le_of_ble_eq_true rfl) (Nat.le_of_ble_eq_true rfl)) ?_
  rintro v G9 ⟨hnot, rfl, rfl⟩
  obtain ⟨hl1, hl4, hl5, hl6⟩ := zRunN.live hnot
  refine zz_aload_n (pc := 10) C dX2_openTerminal_10 rfl ?_
  refine zz_callV (pc := 11) C (c_X1_leadsSession l D hGa) gX2_openTerminal_X1_leadsSession rfl 0 (by decide +kernel) ⟨Nat.le_of_ble_eq_true rfl, Nat.le_of_ble_eq_true rfl⟩ hGa (ci := 1) rfl rfl rfl dX2_openTerminal_11 rfl (Nat.le_of_ble_eq_true rfl) rfl ⟨Nat.le_of_ble_eq_true rfl, Nat.le_of_ble_eq_true rfl⟩ ?_
  rintro v G9 ⟨rfl, rfl⟩
  refine zz_if_eq (pc := 14) C (tgt := 25) dX2_openTerminal_14 (by decide) (fun hc14 => ?_) (fun hc14 => ?_)
  · exact zzx_throw (pc := 25) (cls := "java/lang/IllegalStateException") (text := "not the leader of a session, or the terminal is taken") (names := ["java/lang/RuntimeException", "java/lang/Exception"]) C hnx h8 hl rfl (Or.inr ⟨zE2_2 (fun z => z hth) (Or.inr (Or.inl (fun z => zb_eq.mp hc14 (hPF.1.trans (hx1.symm.trans (z.symm.trans hPF.2.2.1.symm)))))), rfl⟩) (by decide) (by decide) (by decide) kc_X2_openTerminal_43 ki_X2_openTerminal_43 ka_X2_openTerminal_43 kb_X2_openTerminal_43 kg_X2_openTerminal_43 dX2_openTerminal_25 dX2_openTerminal_28 dX2_openTerminal_29 dX2_openTerminal_31 dX2_openTerminal_34 rfl (by decide) (by decide) (Nat.le_of_ble_eq_true rfl) (Nat.le_of_ble_eq_true rfl)
  · refine zz_aload_n (pc := 17) C dX2_openTerminal_17 rfl ?_
    refine zz_get (pc := 18) C in_X2_openTerminal_X2 (ci := 2) rfl 2 (by decide) (fl_X2_openTerminal_22) rfl dX2_openTerminal_18 hC.x rfl ?_
    refine zz_iconst (pc := 21) C (v := -1) (by decide) dX2_openTerminal_21 ?_
    refine zz_icmp_eq (pc := 22) C (tgt := 35) dX2_openTerminal_22 (by decide) (fun hc22 => ?_) (fun hc22 => ?_)
    · refine zz_aload_n (pc := 35) C dX2_openTerminal_35 rfl ?_
      refine zz_aload_n (pc := 36) C dX2_openTerminal_36 rfl ?_
      refine zz_get (pc := 37) C in_X2_openTerminal_X1 (ci := 1) rfl 3 (by decide) (fl_X2_openTerminal_106) rfl dX2_openTerminal_37 hGa rfl ?_
      have hxA : A (pn x9) ≠ x := fun z => by have h9 := hC.x; rw [← z, hGa] at h9; cases h9
      refine zz_put (pc := 40) C in_X2_openTerminal_X2 tyX2 tyX2_ok nmX2 (ci := 2) (t := 1) rfl 2 (by decide) fl_X2_openTerminal_22 rfl rfl dX2_openTerminal_40 hC.x rfl rfl (Nat.le_of_ble_eq_true rfl) ?_
      refine zz_aload_n (pc := 43) C dX2_openTerminal_43 rfl ?_
      refine zz_aload_n (pc := 44) C dX2_openTerminal_44 rfl ?_
      refine zz_get (pc := 45) C in_X2_openTerminal_X1 (ci := 1) rfl 2 (by decide) (fl_X2_openTerminal_103) rfl dX2_openTerminal_45 (show (zU _ x _) (A (pn x9)) = _ by rw [zU_ne hxA]; exact hGa) rfl ?_
      refine zz_put (pc := 48) C in_X2_openTerminal_X2 tyX2 tyX2_ok nmX2 (ci := 2) (t := 1) rfl 3 (by decide) fl_X2_openTerminal_26 rfl rfl dX2_openTerminal_48 zU_self rfl rfl (Nat.le_of_ble_eq_true rfl) ?_
      rw [zU_zU]
      have hC2 := hC.top (a := σ 3 (pn x9)) (b := σ 2 (pn x9))
      have h3 : σ 3 (pn x9) = x9 := hPF.2.2.1.symm.trans ((zbp hc14).symm.trans (hPF.1.trans hx1.symm))
      rw [hPF.2.2.1, hPF.2.1]
      rw [show zu σ 21 0 (σ 3 (pn x9)) = zu σ 21 0 x9 from by rw [h3]] at hC2
      exact zzx_ret (zz_return (pc := 51) C dX2_openTerminal_51 (Nat.le_of_ble_eq_true rfl) (Nat.le_of_ble_eq_true rfl) ⟨zE2_0 (fun z => z hth) (fun z => z.elim hnot (fun u => u.elim (fun y => y h3) (fun y => y hc22))), rfl, hC2⟩)
    · exact zzx_throw (pc := 25) (cls := "java/lang/IllegalStateException") (text := "not the leader of a session, or the terminal is taken") (names := ["java/lang/RuntimeException", "java/lang/Exception"]) C hnx h8 hl rfl (Or.inr ⟨zE2_2 (fun z => z hth) (Or.inr (Or.inr hc22)), rfl⟩) (by decide) (by decide) (by decide) kc_X2_openTerminal_43 ki_X2_openTerminal_43 ka_X2_openTerminal_43 kb_X2_openTerminal_43 kg_X2_openTerminal_43 dX2_openTerminal_25 dX2_openTerminal_28 dX2_openTerminal_29 dX2_openTerminal_31 dX2_openTerminal_34 rfl (by decide) (by decide) (Nat.le_of_ble_eq_true rfl) (Nat.le_of_ble_eq_true rfl)
theorem fl_X2_setForeground_106 : Cond.fieldLink RX2 106 "Signalpost$Proc" "session" "I" ∈ wsX2_setForeground := by decide +kernel
theorem fl_X2_setForeground_22 : Cond.fieldLink RX2 22 "Signalpost" "terminalHolder" "I" ∈ wsX2_setForeground := by decide +kernel
theorem fl_X2_setForeground_26 : Cond.fieldLink RX2 26 "Signalpost" "foregroundGroup" "I" ∈ wsX2_setForeground := by decide +kernel
theorem in_X2_setForeground_X1 : ∀ w ∈ u_ws RX1 TX1 20, w ∈ wsX2_setForeground := by decide +kernel
theorem in_X2_setForeground_X2 : ∀ w ∈ u_ws RX2 TX2 4, w ∈ wsX2_setForeground := by decide +kernel
theorem kc_X2_setForeground_43 : Cond.classLink RX2 43 "java/lang/IllegalStateException" ∈ wsX2_setForeground := by decide +kernel
theorem ki_X2_setForeground_43 : Cond.initialized "java/lang/IllegalStateException" ∈ wsX2_setForeground := by decide +kernel
theorem ka_X2_setForeground_43 : ∀ w ∈ (vx_atS RX2 47 "java/lang/IllegalStateException" ["java/lang/RuntimeException", "java/lang/Exception"]).filter goodWord, w ∈ wsX2_setForeground := by decide +kernel
theorem kb_X2_setForeground_43 : ∀ w ∈ (vx_atS RX2 47 "java/lang/IllegalStateException" ["java/lang/RuntimeException", "java/lang/Exception"]).filter (fun w => !goodWord w), w ∈ zFaces := by decide +kernel
theorem kg_X2_setForeground_43 : ∀ w ∈ Cond.classLink RX2 43 "java/lang/IllegalStateException" :: Cond.initialized "java/lang/IllegalStateException" :: vx_atS RX2 47 "java/lang/IllegalStateException" ["java/lang/RuntimeException", "java/lang/Exception"], vx_ot w = true := by decide +kernel
set_option maxHeartbeats 4000000 in
set_option maxRecDepth 100000 in
theorem c_X2_setForeground (l : Launch) (hl : l.stackTraces = false) (D : va_G) {B G : zG} {x tb ev : Nat} {A : Nat → Nat} {σ : zS} {q : List zEv} {h m0 : Nat} {x9 g9 : Int32} (hC : zCl B x tb ev A σ q h m0 G)  : zxMet D l yX2_setForeground wsX2_setForeground ({ frames := 8, cells := 4, slots := 24, locals := 132 } : Room) [.ref x, .int x9, .int g9] G (fun v G9 => zE3 (¬ zHere σ x9) (g9 < 1 ∨ (40 : Int32) < g9) (zNot σ (pn x9) ∨ σ 3 (pn x9) ≠ σ 21 0 ∨ ¬ zIsIn σ g9 (σ 3 (pn x9)) 41) = 0 ∧ v = some (.int (σ 22 0)) ∧ zCl B x tb ev A (zu σ 22 0 g9) q h m0 G9) (fun E => (zE3 (¬ zHere σ x9) (g9 < 1 ∨ (40 : Int32) < g9) (zNot σ (pn x9) ∨ σ 3 (pn x9) ≠ σ 21 0 ∨ ¬ zIsIn σ g9 (σ 3 (pn x9)) 41) = 1 ∧ E = "java/lang/IndexOutOfBoundsException") ∨ (zE3 (¬ zHere σ x9) (g9 < 1 ∨ (40 : Int32) < g9) (zNot σ (pn x9) ∨ σ 3 (pn x9) ≠ σ 21 0 ∨ ¬ zIsIn σ g9 (σ 3 (pn x9)) 41) = 2 ∧ E = "java/lang/IllegalArgumentException") ∨ (zE3 (¬ zHere σ x9) (g9 < 1 ∨ (40 : Int32) < g9) (zNot σ (pn x9) ∨ σ 3 (pn x9) ≠ σ 21 0 ∨ ¬ zIsIn σ g9 (σ 3 (pn x9)) 41) = 3 ∧ E = "java/lang/IllegalStateException")) := by
  refine zxMet_of (cc := cX2_setForeground) (maxL := 5) (ret := (some .int)) (by decide) rfl (Nat.le_of_ble_eq_true rfl) ?_
  intro p e s m args below meth c C hnx h8
  refine zz_aload_n (pc := 0) C dX2_setForeground_0 rfl ?_
  refine zz_iload_n (pc := 1) C dX2_setForeground_1 rfl ?_
  refine zzx_callV (pc := 2) C h8 (c_X2_find l hl D hC (x9 := x9)) gX2_setForeground_X2_find rfl 1 (by decide +kernel) ⟨Nat.le_of_ble_eq_true rfl, Nat.le_of_ble_eq_true rfl⟩ hC.x (ci := 2) rfl rfl rfl dX2_setForeground_2 rfl (Nat.le_of_ble_eq_true rfl) rfl ⟨Nat.le_of_ble_eq_true rfl, Nat.le_of_ble_eq_true rfl⟩ (fun E hE => zzx_out C hnx (Or.inl ⟨zE3_1 hE.1, hE.2⟩) (Nat.le_of_ble_eq_true rfl) (Nat.le_of_ble_eq_true rfl)) ?_
  rintro v G9 ⟨hth, rfl, rfl⟩
  obtain ⟨hx1, hx2, hx3⟩ := hth.at
  obtain ⟨f, hGa, hPF, hup⟩ := hC.at (k := pn x9) hx3 hth.2.2
  refine zz_astore_n (pc := 5) C dX2_setForeground_5 (Nat.le_of_ble_eq_true rfl) ?_
  refine zz_iload_n (pc := 6) C dX2_setForeground_6 rfl ?_
  refine zzx_callS (pc := 7) C h8 (c_X2_requireNumber l hl D (v9 := g9)) gX2_setForeground_X2_requireNumber rfl 1 (by decide +kernel) ⟨Nat.le_of_ble_eq_true rfl, Nat.le_of_ble_eq_true rfl⟩ rfl dX2_setForeground_7 rfl (Nat.le_of_ble_eq_true rfl) rfl ⟨Nat.le_of_ble_eq_true rfl, Nat.le_of_ble_eq_true rfl⟩ (fun E hE => zzx_out C hnx (Or.inr (Or.inl ⟨zE3_2 (fun z => z hth) hE.1, hE.2⟩)) (Nat.le_of_ble_eq_true rfl) (Nat.le_of_ble_eq_true rfl)) ?_
  rintro v G9 ⟨hrr, rfl, rfl⟩
  refine zz_aload_n (pc := 10) C dX2_setForeground_10 rfl ?_
  refine zzx_callS (pc := 11) C h8 (c_X2_requireCaller l hl D hC (k := pn x9) hx3 hth.2.2) gX2_setForeground_X2_requireCaller rfl 1 (by decide +kernel) ⟨Nat.le_of_ble_eq_true rfl, Nat.le_of_ble_eq_true rfl⟩ rfl dX2_setForeground_11 rfl (Nat.le_of_ble_eq_true rfl) rfl ⟨Nat.le_of_ble_eq_true rfl, Nat.le_of_ble_eq_true rfl⟩ (fun E hE => zzx_out C hnx (Or.inr (Or.inr ⟨zE3_3 (fun z => z hth) hrr (Or.inl hE.1), hE.2⟩)) (Nat.le_of_ble_eq_true rfl) (Nat.le_of_ble_eq_true rfl)) ?_
  rintro v G9 ⟨hnot, rfl, rfl⟩
  obtain ⟨hl1, hl4, hl5, hl6⟩ := zRunN.live hnot
  refine zz_aload_n (pc := 14) C dX2_setForeground_14 rfl ?_
  refine zz_get (pc := 15) C in_X2_setForeground_X1 (ci := 1) rfl 3 (by decide) (fl_X2_setForeground_106) rfl dX2_setForeground_15 hGa rfl ?_
  refine zz_aload_n (pc := 18) C dX2_setForeground_18 rfl ?_
  refine zz_get (pc := 19) C in_X2_setForeground_X2 (ci := 2) rfl 2 (by decide) (fl_X2_setForeground_22) rfl dX2_setForeground_19 hC.x rfl ?_
  refine zz_icmp_ne (pc := 22) C (tgt := 37) dX2_setForeground_22 (by decide) (fun hc22 => ?_) (fun hc22 => ?_)
  · exact zzx_throw (pc := 37) (cls := "java/lang/IllegalStateException") (text := "not the session's terminal, or not the session's group") (names := ["java/lang/RuntimeException", "java/lang/Exception"]) C hnx h8 hl rfl (Or.inr (Or.inr ⟨zE3_3 (fun z => z hth) hrr (Or.inr (Or.inl (fun z => hc22 (hPF.2.2.1.trans z)))), rfl⟩)) (by decide) (by decide) (by decide) kc_X2_setForeground_43 ki_X2_setForeground_43 ka_X2_setForeground_43 kb_X2_setForeground_43 kg_X2_setForeground_43 dX2_setForeground_37 dX2_setForeground_40 dX2_setForeground_41 dX2_setForeground_43 dX2_setForeground_46 rfl (by decide) (by decide) (Nat.le_of_ble_eq_true rfl) (Nat.le_of_ble_eq_true rfl)
  · refine zz_aload_n (pc := 25) C dX2_setForeground_25 rfl ?_
    refine zz_iload_n (pc := 26) C dX2_setForeground_26 rfl ?_
    refine zz_aload_n (pc := 27) C dX2_setForeground_27 rfl ?_
    refine zz_get (pc := 28) C in_X2_setForeground_X1 (ci := 1) rfl 3 (by decide) (fl_X2_setForeground_106) rfl dX2_setForeground_28 hGa rfl ?_
    rw [hPF.2.2.1]
    refine zz_callV (pc := 31) C (c_clMem l D (g9 := g9) (s9 := σ 3 (pn x9)) hC) gX2_setForeground_X2_hasMemberIn rfl 2 (by decide +kernel) ⟨Nat.le_of_ble_eq_true rfl, Nat.le_of_ble_eq_true rfl⟩ hC.x (ci := 2) rfl rfl rfl dX2_setForeground_31 rfl (Nat.le_of_ble_eq_true rfl) rfl ⟨Nat.le_of_ble_eq_true rfl, Nat.le_of_ble_eq_true rfl⟩ ?_
    rintro v G9 ⟨rfl, rfl⟩
    refine zz_if_ne (pc := 34) C (tgt := 47) dX2_setForeground_34 (by decide) (fun hc34 => ?_) (fun hc34 => ?_)
    · refine zz_aload_n (pc := 47) C dX2_setForeground_47 rfl ?_
      refine zz_get (pc := 48) C in_X2_setForeground_X2 (ci := 2) rfl 3 (by decide) (fl_X2_setForeground_26) rfl dX2_setForeground_48 hC.x rfl ?_
      refine zz_istore (pc := 51) C dX2_setForeground_51 (Nat.le_of_ble_eq_true rfl) ?_
      refine zz_aload_n (pc := 53) C dX2_setForeground_53 rfl ?_
      refine zz_iload_n (pc := 54) C dX2_setForeground_54 rfl ?_
      refine zz_put (pc := 55) C in_X2_setForeground_X2 tyX2 tyX2_ok nmX2 (ci := 2) (t := 1) rfl 3 (by decide) fl_X2_setForeground_26 rfl rfl dX2_setForeground_55 hC.x rfl rfl (Nat.le_of_ble_eq_true rfl) ?_
      have hC2 := hC.top22 (b := g9)
      refine zz_iload (pc := 58) C dX2_setForeground_58 rfl ?_
      exact zzx_ret (zz_ireturn (pc := 60) C dX2_setForeground_60 rfl (Nat.le_of_ble_eq_true rfl) (Nat.le_of_ble_eq_true rfl) ⟨zE3_0 (fun z => z hth) hrr (fun z => z.elim hnot (fun u => u.elim (fun y => y (hPF.2.2.1.symm.trans (Classical.not_not.mp hc22))) (fun y => y (zb_ne.mp hc34)))), rfl, hC2⟩)
    · exact zzx_throw (pc := 37) (cls := "java/lang/IllegalStateException") (text := "not the session's terminal, or not the session's group") (names := ["java/lang/RuntimeException", "java/lang/Exception"]) C hnx h8 hl rfl (Or.inr (Or.inr ⟨zE3_3 (fun z => z hth) hrr (Or.inr (Or.inr (zbn hc34))), rfl⟩)) (by decide) (by decide) (by decide) kc_X2_setForeground_43 ki_X2_setForeground_43 ka_X2_setForeground_43 kb_X2_setForeground_43 kg_X2_setForeground_43 dX2_setForeground_37 dX2_setForeground_40 dX2_setForeground_41 dX2_setForeground_43 dX2_setForeground_46 rfl (by decide) (by decide) (Nat.le_of_ble_eq_true rfl) (Nat.le_of_ble_eq_true rfl)
