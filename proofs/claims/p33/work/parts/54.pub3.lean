theorem zRx_0c {m T f l k a : Nat} (h1 : a ≤ k) : a ≤ (zRmX f l m T k).cells := by
  have e3 : (zRmX f l m T k).cells = k + zW m T := rfl
  rw [e3]
  omega
theorem zRx_0s {m T f l k b : Nat} (h2 : b ≤ 6 * k) : b ≤ (zRmX f l m T k).slots := by
  have e4 : (zRmX f l m T k).slots = 6 * k + 4 * zW m T := rfl
  rw [e4]
  omega
theorem z89 {s : Int32} (h : ¬ (8 : Int32) < s) : s < 9 := by
  have h1 := Int32.not_lt.mp h
  exact Int32.lt_of_le_of_lt h1 (by decide)
theorem z98 {s : Int32} (h : (8 : Int32) < s) : ¬ s < 9 := fun q => by
  have h1 := Int32.lt_iff_toInt_lt.mp h
  have h2 := Int32.lt_iff_toInt_lt.mp q
  have h3 : (8 : Int32).toInt = 8 := by decide
  have h4 : (9 : Int32).toInt = 9 := by decide
  omega
theorem zWf.p10 {σ : zS} (h : zWf σ) {p : Nat} {v : Int32} : zWf (zu σ 10 p v) := h.own rfl rfl rfl rfl rfl rfl rfl rfl (fun k k0 k4 => h.2.2.1 k k0 k4) h.i h.b h.2.2.2.2.2.2.1
theorem zPF_10 {σ : zS} {k : Nat} {f : Nat → Int32} {v : Int32} (hf : zPF σ k f) : zPF (zu σ 10 k v) k (upd f 14 v) := by
  obtain ⟨a0, a2, a3, a4, a5, a6, a7, a8, a10, a11, a12, a13, a14, a15, a16, a17, a18, a19⟩ := hf
  exact ⟨a0, a2, a3, a4, a5, a6, a7, a8, a10, a11, a12, a13, by simp [zu, upd], a15, a16, a17, a18, a19⟩

set_option maxHeartbeats 4000000 in
set_option maxRecDepth 100000 in
theorem c_X2_exit (l : Launch) (hl : l.stackTraces = false) (D : va_G) {B G : zG} {x tb ev : Nat} {A : Nat → Nat} {σ : zS} {m0 N : Nat} {x9 c9 : Int32} {X : zS × List zEv} (hC : zCl B x tb ev A σ [] 0 m0 G) (hW : zWf σ) (hX : X = zTerm (σ, []) (pn x9) 0 c9) (hrun : zE3 (¬ zHere σ x9) (c9 < 0 ∨ (255 : Int32) < c9) (zNot σ (pn x9)) = 0 → zReady N X) : zxMet D l yX2_exit wsX2_exit (zRmX 9 229 m0 (zCount N X.1 X.2) 3) [.ref x, .int x9, .int c9] G (fun v G9 => zE3 (¬ zHere σ x9) (c9 < 0 ∨ (255 : Int32) < c9) (zNot σ (pn x9)) = 0 ∧ v = none ∧ zCl B x tb ev A (zFin N X) [] 0 (max m0 (zCount N X.1 X.2)) G9) (fun E => (zE3 (¬ zHere σ x9) (c9 < 0 ∨ (255 : Int32) < c9) (zNot σ (pn x9)) = 1 ∧ E = "java/lang/IndexOutOfBoundsException") ∨ (zE3 (¬ zHere σ x9) (c9 < 0 ∨ (255 : Int32) < c9) (zNot σ (pn x9)) = 2 ∧ E = "java/lang/IllegalArgumentException") ∨ (zE3 (¬ zHere σ x9) (c9 < 0 ∨ (255 : Int32) < c9) (zNot σ (pn x9)) = 3 ∧ E = "java/lang/IllegalStateException")) := by
  refine zxMet_of (cc := cX2_exit) (maxL := 4) (ret := none) (by decide) rfl (Nat.le_of_ble_eq_true rfl) ?_
  intro p e s m args below meth c C hnx h8
  refine zz_aload_n (pc := 0) C dX2_exit_0 rfl ?_
  refine zz_iload_n (pc := 1) C dX2_exit_1 rfl ?_
  refine zzx_callV (pc := 2) C h8 (c_X2_find l hl D hC (x9 := x9)) gX2_exit_X2_find rfl 1 (by decide +kernel) ⟨Nat.le_of_ble_eq_true rfl, Nat.le_of_ble_eq_true rfl⟩ hC.x (ci := 2) rfl rfl rfl dX2_exit_2 rfl (Nat.le_of_ble_eq_true rfl) rfl (zRx_0 (Nat.le_of_ble_eq_true rfl) (Nat.le_of_ble_eq_true rfl)) (fun E hE => zzx_out C hnx (Or.inl ⟨zE3_1 hE.1, hE.2⟩) (zRx_0c (Nat.le_of_ble_eq_true rfl)) (zRx_0s (Nat.le_of_ble_eq_true rfl))) ?_
  rintro v G9 ⟨hth, rfl, rfl⟩
  obtain ⟨hx1, hx2, hx3⟩ := hth.at
  obtain ⟨f, hGa, hPF, hup⟩ := hC.at (k := pn x9) hx3 hth.2.2
  refine zz_astore_n (pc := 5) C dX2_exit_5 (Nat.le_of_ble_eq_true rfl) ?_
  refine zz_iload_n (pc := 6) C dX2_exit_6 rfl ?_
  refine zz_iconst (pc := 7) C (v := 0) (by decide) dX2_exit_7 ?_
  refine zz_sipush (pc := 8) C (v := 255) (by decide) dX2_exit_8 ?_
  refine zzx_callS (pc := 11) C h8 (c_X2_requireRange l hl D (v9 := c9) (a9 := 0) (b9 := 255)) gX2_exit_X2_requireRange rfl 3 (by decide +kernel) ⟨Nat.le_of_ble_eq_true rfl, Nat.le_of_ble_eq_true rfl⟩ rfl dX2_exit_11 rfl (Nat.le_of_ble_eq_true rfl) rfl (zRx_0 (Nat.le_of_ble_eq_true rfl) (Nat.le_of_ble_eq_true rfl)) (fun E hE => zzx_out C hnx (Or.inr (Or.inl ⟨zE3_2 (fun z => z hth) hE.1, hE.2⟩)) (zRx_0c (Nat.le_of_ble_eq_true rfl)) (zRx_0s (Nat.le_of_ble_eq_true rfl))) ?_
  rintro v G9 ⟨hrr, rfl, rfl⟩
  refine zz_aload_n (pc := 14) C dX2_exit_14 rfl ?_
  refine zzx_callS (pc := 15) C h8 (c_X2_requireCaller l hl D hC (k := pn x9) hx3 hth.2.2) gX2_exit_X2_requireCaller rfl 1 (by decide +kernel) ⟨Nat.le_of_ble_eq_true rfl, Nat.le_of_ble_eq_true rfl⟩ rfl dX2_exit_15 rfl (Nat.le_of_ble_eq_true rfl) rfl (zRx_0 (Nat.le_of_ble_eq_true rfl) (Nat.le_of_ble_eq_true rfl)) (fun E hE => zzx_out C hnx (Or.inr (Or.inr ⟨zE3_3 (fun z => z hth) hrr hE.1, hE.2⟩)) (zRx_0c (Nat.le_of_ble_eq_true rfl)) (zRx_0s (Nat.le_of_ble_eq_true rfl))) ?_
  rintro v G9 ⟨hnot, rfl, rfl⟩
  obtain ⟨hl1, hl4, hl5, hl6⟩ := zRunN.live hnot
  have TH0 : zE3 (¬ zHere σ x9) (c9 < 0 ∨ (255 : Int32) < c9) (zNot σ (pn x9)) = 0 := zE3_0 (fun z => z hth) hrr hnot
  have hrd := hrun TH0
  have h0X : 0 + ([] : List zEv).length ≤ 0 + X.2.length := Nat.zero_le _
  have hXT : 0 + X.2.length ≤ zCount N X.1 X.2 := by have := zCount_len hrd.1 hrd.2.1; omega
  have hXT2 : 0 + X.2.length ≤ 16384 := Nat.le_trans hXT hrd.2.2
  have hC := zCl_max hC
  refine zV.widen (k := 3 + zW m0 (0 + ([] : List zEv).length)) (n := 6 * 3 + 4 * zW m0 (0 + ([] : List zEv).length)) (Nat.le_trans (Nat.le_of_ble_eq_true rfl : _ ≤ 3) (Nat.le_add_right _ _)) (Nat.le_trans (Nat.le_of_ble_eq_true rfl : _ ≤ 6 * 3) (Nat.le_add_right _ _)) ?_
  refine zz_aload_n (pc := 18) C dX2_exit_18 rfl ?_
  refine zz_aload_n (pc := 19) C dX2_exit_19 rfl ?_
  refine zz_iconst (pc := 20) C (v := 0) (by decide) dX2_exit_20 ?_
  refine zz_iload_n (pc := 21) C dX2_exit_21 rfl ?_
  refine zz_callV (pc := 22) C (c_X2_terminate l D (p9 := pn x9) (how := 0) (w9 := c9) (q2 := X.2) hC hW hth.2.2 hl1 (Or.inl rfl) (by rw [hX, zTerm_2]) hXT2) gX2_exit_X2_terminate rfl 3 (by decide +kernel) ⟨Nat.le_of_ble_eq_true rfl, Nat.le_of_ble_eq_true rfl⟩ hC.x (ci := 2) rfl rfl rfl dX2_exit_22 rfl (Nat.le_of_ble_eq_true rfl) rfl (zRx_ok (k := 3) (a := 0 + ([] : List zEv).length) (b := 0 + X.2.length) h0X hXT) ?_
  rintro v G9 ⟨rfl, hC⟩
  rw [zmax h0X] at hC
  refine zV.widen (k := 3 + zW m0 (0 + X.2.length)) (n := 6 * 3 + 4 * zW m0 (0 + X.2.length)) (zRx_eq h0X).1 (zRx_eq h0X).2 ?_
  rw [show zT3 σ (pn x9) 0 c9 = X.1 from by rw [hX, zTerm_1]] at hC
  refine zz_aload_n (pc := 25) C dX2_exit_25 rfl ?_
  refine zz_callV (pc := 26) C (c_X2_processEvents l D (N := N) hC hrd.1 hrd.2.1 hrd.2.2) gX2_exit_X2_processEvents rfl 0 (by decide +kernel) ⟨Nat.le_of_ble_eq_true rfl, Nat.le_of_ble_eq_true rfl⟩ hC.x (ci := 2) rfl rfl rfl dX2_exit_26 rfl (Nat.le_of_ble_eq_true rfl) rfl (zRx_ok (k := 3) (a := 0 + X.2.length) (b := zCount N X.1 X.2) hXT (Nat.le_refl _)) ?_
  rintro v G9 ⟨rfl, hC⟩
  rw [zmax hXT] at hC
  refine zV.widen (k := 3 + zW m0 (zCount N X.1 X.2)) (n := 6 * 3 + 4 * zW m0 (zCount N X.1 X.2)) (zRx_eq hXT).1 (zRx_eq hXT).2 ?_
  exact zzx_ret (zz_return (pc := 29) C dX2_exit_29  zRx_end.1 zRx_end.2 ⟨TH0, rfl, hC⟩)
theorem fl_X2_setMask_91 : Cond.fieldLink RX2 91 "Signalpost$Proc" "mask" "I" ∈ wsX2_setMask := by decide +kernel
theorem in_X2_setMask_X1 : ∀ w ∈ u_ws RX1 TX1 20, w ∈ wsX2_setMask := by decide +kernel
set_option maxHeartbeats 4000000 in
set_option maxRecDepth 100000 in
theorem c_X2_setMask (l : Launch) (hl : l.stackTraces = false) (D : va_G) {B G : zG} {x tb ev : Nat} {A : Nat → Nat} {σ : zS} {m0 N : Nat} {x9 c9 : Int32} {X : zS × List zEv} (hC : zCl B x tb ev A σ [] 0 m0 G) (hW : zWf σ) (hX : X = zDel (zMk σ (pn x9) c9, []) (pn x9)) (hrun : zE3 (¬ zHere σ x9) (c9 < 0 ∨ (511 : Int32) < c9) (zNot σ (pn x9)) = 0 → zReady N X) : zxMet D l yX2_setMask wsX2_setMask (zRmX 9 229 m0 (zCount N X.1 X.2) 3) [.ref x, .int x9, .int c9] G (fun v G9 => zE3 (¬ zHere σ x9) (c9 < 0 ∨ (511 : Int32) < c9) (zNot σ (pn x9)) = 0 ∧ v = some (.int (σ 10 (pn x9))) ∧ zCl B x tb ev A (zFin N X) [] 0 (max m0 (zCount N X.1 X.2)) G9) (fun E => (zE3 (¬ zHere σ x9) (c9 < 0 ∨ (511 : Int32) < c9) (zNot σ (pn x9)) = 1 ∧ E = "java/lang/IndexOutOfBoundsException") ∨ (zE3 (¬ zHere σ x9) (c9 < 0 ∨ (511 : Int32) < c9) (zNot σ (pn x9)) = 2 ∧ E = "java/lang/IllegalArgumentException") ∨ (zE3 (¬ zHere σ x9) (c9 < 0 ∨ (511 : Int32) < c9) (zNot σ (pn x9)) = 3 ∧ E = "java/lang/IllegalStateException")) := by
  refine zxMet_of (cc := cX2_setMask) (maxL := 5) (ret := (some .int)) (by decide) rfl (Nat.le_of_ble_eq_true rfl) ?_
  intro p e s m args below meth c C hnx h8
  refine zz_aload_n (pc := 0) C dX2_setMask_0 rfl ?_
  refine zz_iload_n (pc := 1) C dX2_setMask_1 rfl ?_
  refine zzx_callV (pc := 2) C h8 (c_X2_find l hl D hC (x9 := x9)) gX2_setMask_X2_find rfl 1 (by decide +kernel) ⟨Nat.le_of_ble_eq_true rfl, Nat.le_of_ble_eq_true rfl⟩ hC.x (ci := 2) rfl rfl rfl dX2_setMask_2 rfl (Nat.le_of_ble_eq_true rfl) rfl (zRx_0 (Nat.le_of_ble_eq_true rfl) (Nat.le_of_ble_eq_true rfl)) (fun E hE => zzx_out C hnx (Or.inl ⟨zE3_1 hE.1, hE.2⟩) (zRx_0c (Nat.le_of_ble_eq_true rfl)) (zRx_0s (Nat.le_of_ble_eq_true rfl))) ?_
  rintro v G9 ⟨hth, rfl, rfl⟩
  obtain ⟨hx1, hx2, hx3⟩ := hth.at
  obtain ⟨f, hGa, hPF, hup⟩ := hC.at (k := pn x9) hx3 hth.2.2
  refine zz_astore_n (pc := 5) C dX2_setMask_5 (Nat.le_of_ble_eq_true rfl) ?_
  refine zz_iload_n (pc := 6) C dX2_setMask_6 rfl ?_
  refine zz_iconst (pc := 7) C (v := 0) (by decide) dX2_setMask_7 ?_
  refine zz_sipush (pc := 8) C (v := 511) (by decide) dX2_setMask_8 ?_
  refine zzx_callS (pc := 11) C h8 (c_X2_requireRange l hl D (v9 := c9) (a9 := 0) (b9 := 511)) gX2_setMask_X2_requireRange rfl 3 (by decide +kernel) ⟨Nat.le_of_ble_eq_true rfl, Nat.le_of_ble_eq_true rfl⟩ rfl dX2_setMask_11 rfl (Nat.le_of_ble_eq_true rfl) rfl (zRx_0 (Nat.le_of_ble_eq_true rfl) (Nat.le_of_ble_eq_true rfl)) (fun E hE => zzx_out C hnx (Or.inr (Or.inl ⟨zE3_2 (fun z => z hth) hE.1, hE.2⟩)) (zRx_0c (Nat.le_of_ble_eq_true rfl)) (zRx_0s (Nat.le_of_ble_eq_true rfl))) ?_
  rintro v G9 ⟨hrr, rfl, rfl⟩
  refine zz_aload_n (pc := 14) C dX2_setMask_14 rfl ?_
  refine zzx_callS (pc := 15) C h8 (c_X2_requireCaller l hl D hC (k := pn x9) hx3 hth.2.2) gX2_setMask_X2_requireCaller rfl 1 (by decide +kernel) ⟨Nat.le_of_ble_eq_true rfl, Nat.le_of_ble_eq_true rfl⟩ rfl dX2_setMask_15 rfl (Nat.le_of_ble_eq_true rfl) rfl (zRx_0 (Nat.le_of_ble_eq_true rfl) (Nat.le_of_ble_eq_true rfl)) (fun E hE => zzx_out C hnx (Or.inr (Or.inr ⟨zE3_3 (fun z => z hth) hrr hE.1, hE.2⟩)) (zRx_0c (Nat.le_of_ble_eq_true rfl)) (zRx_0s (Nat.le_of_ble_eq_true rfl))) ?_
  rintro v G9 ⟨hnot, rfl, rfl⟩
  obtain ⟨hl1, hl4, hl5, hl6⟩ := zRunN.live hnot
  have TH0 : zE3 (¬ zHere σ x9) (c9 < 0 ∨ (511 : Int32) < c9) (zNot σ (pn x9)) = 0 := zE3_0 (fun z => z hth) hrr hnot
  have hrd := hrun TH0
  have h0X : 0 + ([] : List zEv).length ≤ 0 + X.2.length := Nat.zero_le _
  have hXT : 0 + X.2.length ≤ zCount N X.1 X.2 := by have := zCount_len hrd.1 hrd.2.1; omega
  have hXT2 : 0 + X.2.length ≤ 16384 := Nat.le_trans hXT hrd.2.2
  refine zz_aload_n (pc := 18) C dX2_setMask_18 rfl ?_
  refine zz_get (pc := 19) C in_X2_setMask_X1 (ci := 1) rfl 14 (by decide) (fl_X2_setMask_91) rfl dX2_setMask_19 hGa rfl ?_
  refine zz_istore (pc := 22) C dX2_setMask_22 (Nat.le_of_ble_eq_true rfl) ?_
  refine zz_aload_n (pc := 24) C dX2_setMask_24 rfl ?_
  refine zz_iload_n (pc := 25) C dX2_setMask_25 rfl ?_
  refine zz_bipush (pc := 26) C (v := -37) (by decide) dX2_setMask_26 ?_
  refine zz_iand (pc := 28) C dX2_setMask_28 ?_
  refine zV.eqG (zU_id hGa).symm ?_
  refine zz_pput (pc := 29) C in_X2_setMask_X1 14 (by decide) (by decide) (by decide) fl_X2_setMask_91 dX2_setMask_29 rfl rfl ?_
  have hC := hup (zMk σ (pn x9) c9) _ (zOwn_g (g := 10) (v := c9 &&& (-37)) (by decide) (by decide) (by decide)) (zPF_10 hPF)
  have hC := zCl_max hC
  refine zV.widen (k := 3 + zW m0 (0 + ([] : List zEv).length)) (n := 6 * 3 + 4 * zW m0 (0 + ([] : List zEv).length)) (Nat.le_trans (Nat.le_of_ble_eq_true rfl : _ ≤ 3) (Nat.le_add_right _ _)) (Nat.le_trans (Nat.le_of_ble_eq_true rfl : _ ≤ 6 * 3) (Nat.le_add_right _ _)) ?_
  refine zz_aload_n (pc := 32) C dX2_setMask_32 rfl ?_
  refine zz_aload_n (pc := 33) C dX2_setMask_33 rfl ?_
  refine zz_callV (pc := 34) C (c_X2_deliver l D (p9 := pn x9) (q2 := X.2) hC (show zWf (zMk σ (pn x9) c9) from hW.p10) hth.2.2 hl1 (by rw [hX]) hXT2) gX2_setMask_X2_deliver rfl 1 (by decide +kernel) ⟨Nat.le_of_ble_eq_true rfl, Nat.le_of_ble_eq_true rfl⟩ hC.x (ci := 2) rfl rfl rfl dX2_setMask_34 rfl (Nat.le_of_ble_eq_true rfl) rfl (zRx_ok (k := 3) (a := 0 + ([] : List zEv).length) (b := 0 + X.2.length) h0X hXT) ?_
  rintro v G9 ⟨rfl, hC⟩
  rw [zmax h0X] at hC
  refine zV.widen (k := 3 + zW m0 (0 + X.2.length)) (n := 6 * 3 + 4 * zW m0 (0 + X.2.length)) (zRx_eq h0X).1 (zRx_eq h0X).2 ?_
  rw [show (zDel (zMk σ (pn x9) c9, []) (pn x9)).1 = X.1 from by rw [hX]] at hC
  refine zz_aload_n (pc := 37) C dX2_setMask_37 rfl ?_
  refine zz_callV (pc := 38) C (c_X2_processEvents l D (N := N) hC hrd.1 hrd.2.1 hrd.2.2) gX2_setMask_X2_processEvents rfl 0 (by decide +kernel) ⟨Nat.le_of_ble_eq_true rfl, Nat.le_of_ble_eq_true rfl⟩ hC.x (ci := 2) rfl rfl rfl dX2_setMask_38 rfl (Nat.le_of_ble_eq_true rfl) rfl (zRx_ok (k := 3) (a := 0 + X.2.length) (b := zCount N X.1 X.2) hXT (Nat.le_refl _)) ?_
  rintro v G9 ⟨rfl, hC⟩
  rw [zmax hXT] at hC
  refine zV.widen (k := 3 + zW m0 (zCount N X.1 X.2)) (n := 6 * 3 + 4 * zW m0 (zCount N X.1 X.2)) (zRx_eq hXT).1 (zRx_eq hXT).2 ?_
  refine zz_iload (pc := 41) C dX2_setMask_41 rfl ?_
  exact zzx_ret (zz_ireturn (pc := 43) C dX2_setMask_43 rfl zRx_end.1 zRx_end.2 ⟨TH0, by rw [hPF.2.2.2.2.2.2.2.2.2.2.2.2.1], hC⟩)
theorem fl_X2_send_18 : Cond.fieldLink RX2 18 "Signalpost" "events" "LSignalpost$EventQueue;" ∈ wsX2_send := by decide +kernel
theorem in_X2_send_X2 : ∀ w ∈ u_ws RX2 TX2 4, w ∈ wsX2_send := by decide +kernel
set_option maxHeartbeats 4000000 in
set_option maxRecDepth 100000 in
theorem c_X2_send (l : Launch) (hl : l.stackTraces = false) (D : va_G) {B G : zG} {x tb ev : Nat} {A : Nat → Nat} {σ : zS} {m0 N : Nat} {x9 s9 : Int32} {X : zS × List zEv} (hC : zCl B x tb ev A σ [] 0 m0 G)  (hX : X = (σ, [(pn s9, pn x9)])) (hrun : zE2 (¬ zHere σ x9) (s9 < 0 ∨ ¬ s9 < 9) = 0 → zReady N X) : zxMet D l yX2_send wsX2_send (zRmX 9 229 m0 (zCount N X.1 X.2) 2) [.ref x, .int x9, .int s9] G (fun v G9 => zE2 (¬ zHere σ x9) (s9 < 0 ∨ ¬ s9 < 9) = 0 ∧ v = none ∧ zCl B x tb ev A (zFin N X) [] 0 (max m0 (zCount N X.1 X.2)) G9) (fun E => (zE2 (¬ zHere σ x9) (s9 < 0 ∨ ¬ s9 < 9) = 1 ∧ E = "java/lang/IndexOutOfBoundsException") ∨ (zE2 (¬ zHere σ x9) (s9 < 0 ∨ ¬ s9 < 9) = 2 ∧ E = "java/lang/IllegalArgumentException")) := by
  refine zxMet_of (cc := cX2_send) (maxL := 3) (ret := none) (by decide) rfl (Nat.le_of_ble_eq_true rfl) ?_
  intro p e s m args below meth c C hnx h8
  refine zz_aload_n (pc := 0) C dX2_send_0 rfl ?_
  refine zz_iload_n (pc := 1) C dX2_send_1 rfl ?_
  refine zzx_callV (pc := 2) C h8 (c_X2_find l hl D hC (x9 := x9)) gX2_send_X2_find rfl 1 (by decide +kernel) ⟨Nat.le_of_ble_eq_true rfl, Nat.le_of_ble_eq_true rfl⟩ hC.x (ci := 2) rfl rfl rfl dX2_send_2 rfl (Nat.le_of_ble_eq_true rfl) rfl (zRx_0 (Nat.le_of_ble_eq_true rfl) (Nat.le_of_ble_eq_true rfl)) (fun E hE => zzx_out C hnx (Or.inl ⟨zE2_1 hE.1, hE.2⟩) (zRx_0c (Nat.le_of_ble_eq_true rfl)) (zRx_0s (Nat.le_of_ble_eq_true rfl))) ?_
  rintro v G9 ⟨hth, rfl, rfl⟩
  obtain ⟨hx1, hx2, hx3⟩ := hth.at
  obtain ⟨f, hGa, hPF, hup⟩ := hC.at (k := pn x9) hx3 hth.2.2
  refine zz_pop (pc := 5) C dX2_send_5 rfl ?_
  refine zz_iload_n (pc := 6) C dX2_send_6 rfl ?_
  refine zz_iconst (pc := 7) C (v := 0) (by decide) dX2_send_7 ?_
  refine zz_bipush (pc := 8) C (v := 8) (by decide) dX2_send_8 ?_
  refine zzx_callS (pc := 10) C h8 (c_X2_requireRange l hl D (v9 := s9) (a9 := 0) (b9 := 8)) gX2_send_X2_requireRange rfl 3 (by decide +kernel) ⟨Nat.le_of_ble_eq_true rfl, Nat.le_of_ble_eq_true rfl⟩ rfl dX2_send_10 rfl (Nat.le_of_ble_eq_true rfl) rfl (zRx_0 (Nat.le_of_ble_eq_true rfl) (Nat.le_of_ble_eq_true rfl)) (fun E hE => zzx_out C hnx (Or.inr ⟨zE2_2 (fun z => z hth) (hE.1.elim Or.inl (fun u => Or.inr (z98 u))), hE.2⟩) (zRx_0c (Nat.le_of_ble_eq_true rfl)) (zRx_0s (Nat.le_of_ble_eq_true rfl))) ?_
  rintro v G9 ⟨hrr, rfl, rfl⟩
  have TH0 : zE2 (¬ zHere σ x9) (s9 < 0 ∨ ¬ s9 < 9) = 0 := zE2_0 (fun z => z hth) (fun z => z.elim (fun u => hrr (Or.inl u)) (fun u => u (z89 (fun y => hrr (Or.inr y)))))
  obtain ⟨hs1, hs2⟩ := zs9 (fun u => hrr (Or.inl u)) (z89 (fun y => hrr (Or.inr y)))
  have hrd := hrun TH0
  have h0X : 0 + ([] : List zEv).length ≤ 0 + X.2.length := Nat.zero_le _
  have hXT : 0 + X.2.length ≤ zCount N X.1 X.2 := by have := zCount_len hrd.1 hrd.2.1; omega
  have hXT2 : 0 + X.2.length ≤ 16384 := Nat.le_trans hXT hrd.2.2
  have hC := zCl_max hC
  refine zV.widen (k := 2 + zW m0 (0 + ([] : List zEv).length)) (n := 6 * 2 + 4 * zW m0 (0 + ([] : List zEv).length)) (Nat.le_trans (Nat.le_of_ble_eq_true rfl : _ ≤ 2) (Nat.le_add_right _ _)) (Nat.le_trans (Nat.le_of_ble_eq_true rfl : _ ≤ 6 * 2) (Nat.le_add_right _ _)) ?_
  obtain ⟨fe, hE⟩ := hC.ev
  refine zz_aload_n (pc := 13) C dX2_send_13 rfl ?_
  refine zz_get (pc := 14) C in_X2_send_X2 (ci := 2) rfl 1 (by decide) (fl_X2_send_18) rfl dX2_send_14 hC.x rfl ?_
  refine zz_iload_n (pc := 17) C dX2_send_17 rfl ?_
  refine zz_iload_n (pc := 18) C dX2_send_18 rfl ?_
  refine zz_callV (pc := 19) C (c_clApp2 l D (q2 := X.2) (e9 := (pn s9, pn x9)) hC (by rw [hX]; rfl) hXT2 hs1 hx1) gX2_send_X0_append rfl 2 (by decide +kernel) ⟨Nat.le_of_ble_eq_true rfl, Nat.le_of_ble_eq_true rfl⟩ hE (ci := 0) rfl rfl rfl dX2_send_19 rfl (Nat.le_of_ble_eq_true rfl) rfl (zRx_ok (k := 2) (a := 0 + ([] : List zEv).length) (b := 0 + X.2.length) h0X hXT) ?_
  rintro v G9 ⟨rfl, hC⟩
  rw [zmax h0X] at hC
  refine zV.widen (k := 2 + zW m0 (0 + X.2.length)) (n := 6 * 2 + 4 * zW m0 (0 + X.2.length)) (zRx_eq h0X).1 (zRx_eq h0X).2 ?_
  rw [show σ = X.1 from by rw [hX]] at hC
  refine zz_aload_n (pc := 22) C dX2_send_22 rfl ?_
  refine zz_callV (pc := 23) C (c_X2_processEvents l D (N := N) hC hrd.1 hrd.2.1 hrd.2.2) gX2_send_X2_processEvents rfl 0 (by decide +kernel) ⟨Nat.le_of_ble_eq_true rfl, Nat.le_of_ble_eq_true rfl⟩ hC.x (ci := 2) rfl rfl rfl dX2_send_23 rfl (Nat.le_of_ble_eq_true rfl) rfl (zRx_ok (k := 2) (a := 0 + X.2.length) (b := zCount N X.1 X.2) hXT (Nat.le_refl _)) ?_
  rintro v G9 ⟨rfl, hC⟩
  rw [zmax hXT] at hC
  refine zV.widen (k := 2 + zW m0 (zCount N X.1 X.2)) (n := 6 * 2 + 4 * zW m0 (zCount N X.1 X.2)) (zRx_eq hXT).1 (zRx_eq hXT).2 ?_
  exact zzx_ret (zz_return (pc := 26) C dX2_send_26  zRx_end.1 zRx_end.2 ⟨TH0, rfl, hC⟩)

set_option maxHeartbeats 4000000 in
set_option maxRecDepth 100000 in
theorem c_X2_sendToGroup (l : Launch) (hl : l.stackTraces = false) (D : va_G) {B G : zG} {x tb ev : Nat} {A : Nat → Nat} {σ : zS} {m0 N : Nat} {g9 s9 : Int32} {X : zS × List zEv} (hC : zCl B x tb ev A σ [] 0 m0 G)  (hX : X = (σ, zSends σ g9 (pn s9) 41)) (hrun : zE1 (g9 < 1 ∨ (40 : Int32) < g9 ∨ s9 < 0 ∨ ¬ s9 < 9) = 0 → zReady N X) : zxMet D l yX2_sendToGroup wsX2_sendToGroup (zRmX 9 229 m0 (zCount N X.1 X.2) 2) [.ref x, .int g9, .int s9] G (fun v G9 => zE1 (g9 < 1 ∨ (40 : Int32) < g9 ∨ s9 < 0 ∨ ¬ s9 < 9) = 0 ∧ v = some (.int (nI (zMemL σ g9 41).length)) ∧ zCl B x tb ev A (zFin N X) [] 0 (max m0 (zCount N X.1 X.2)) G9) (fun E => zE1 (g9 < 1 ∨ (40 : Int32) < g9 ∨ s9 < 0 ∨ ¬ s9 < 9) = 1 ∧ E = "java/lang/IllegalArgumentException") := by
  refine zxMet_of (cc := cX2_sendToGroup) (maxL := 4) (ret := (some .int)) (by decide) rfl (Nat.le_of_ble_eq_true rfl) ?_
  intro p e s m args below meth c C hnx h8
  refine zz_iload_n (pc := 0) C dX2_sendToGroup_0 rfl ?_
  refine zzx_callS (pc := 1) C h8 (c_X2_requireNumber l hl D (v9 := g9)) gX2_sendToGroup_X2_requireNumber rfl 1 (by decide +kernel) ⟨Nat.le_of_ble_eq_true rfl, Nat.le_of_ble_eq_true rfl⟩ rfl dX2_sendToGroup_1 rfl (Nat.le_of_ble_eq_true rfl) rfl (zRx_0 (Nat.le_of_ble_eq_true rfl) (Nat.le_of_ble_eq_true rfl)) (fun E hE => zzx_out C hnx (⟨zE1_1 (hE.1.elim Or.inl (fun u => Or.inr (Or.inl u))), hE.2⟩) (zRx_0c (Nat.le_of_ble_eq_true rfl)) (zRx_0s (Nat.le_of_ble_eq_true rfl))) ?_
  rintro v G9 ⟨hgg, rfl, rfl⟩
  refine zz_iload_n (pc := 4) C dX2_sendToGroup_4 rfl ?_
  refine zz_iconst (pc := 5) C (v := 0) (by decide) dX2_sendToGroup_5 ?_
  refine zz_bipush (pc := 6) C (v := 8) (by decide) dX2_sendToGroup_6 ?_
  refine zzx_callS (pc := 8) C h8 (c_X2_requireRange l hl D (v9 := s9) (a9 := 0) (b9 := 8)) gX2_sendToGroup_X2_requireRange rfl 3 (by decide +kernel) ⟨Nat.le_of_ble_eq_true rfl, Nat.le_of_ble_eq_true rfl⟩ rfl dX2_sendToGroup_8 rfl (Nat.le_of_ble_eq_true rfl) rfl (zRx_0 (Nat.le_of_ble_eq_true rfl) (Nat.le_of_ble_eq_true rfl)) (fun E hE => zzx_out C hnx (⟨zE1_1 (Or.inr (Or.inr (hE.1.elim Or.inl (fun u => Or.inr (z98 u))))), hE.2⟩) (zRx_0c (Nat.le_of_ble_eq_true rfl)) (zRx_0s (Nat.le_of_ble_eq_true rfl))) ?_
  rintro v G9 ⟨hrr, rfl, rfl⟩
  have TH0 : zE1 (g9 < 1 ∨ (40 : Int32) < g9 ∨ s9 < 0 ∨ ¬ s9 < 9) = 0 := zE1_0 (fun z => z.elim (fun u => hgg (Or.inl u)) (fun z => z.elim (fun u => hgg (Or.inr u)) (fun z => z.elim (fun u => hrr (Or.inl u)) (fun u => u (z89 (fun y => hrr (Or.inr y)))))))
  obtain ⟨hs1, hs2⟩ := zs9 (fun u => hrr (Or.inl u)) (z89 (fun y => hrr (Or.inr y)))
  have hrd := hrun TH0
  have h0X : 0 + ([] : List zEv).length ≤ 0 + X.2.length := Nat.zero_le _
  have hXT : 0 + X.2.length ≤ zCount N X.1 X.2 := by have := zCount_len hrd.1 hrd.2.1; omega
  have hXT2 : 0 + X.2.length ≤ 16384 := Nat.le_trans hXT hrd.2.2
  have hC := zCl_max hC
  refine zV.widen (k := 2 + zW m0 (0 + ([] : List zEv).length)) (n := 6 * 2 + 4 * zW m0 (0 + ([] : List zEv).length)) (Nat.le_trans (Nat.le_of_ble_eq_true rfl : _ ≤ 2) (Nat.le_add_right _ _)) (Nat.le_trans (Nat.le_of_ble_eq_true rfl : _ ≤ 6 * 2) (Nat.le_add_right _ _)) ?_
  refine zz_aload_n (pc := 11) C dX2_sendToGroup_11 rfl ?_
  refine zz_iload_n (pc := 12) C dX2_sendToGroup_12 rfl ?_
  refine zz_iload_n (pc := 13) C dX2_sendToGroup_13 rfl ?_
  refine zz_callV (pc := 14) C (c_clSends2 l D (q2 := X.2) (g9 := g9) (s9 := pn s9) hC (by rw [hX]; rfl) hXT2 hs1) gX2_sendToGroup_X2_appendForMembers rfl 2 (by decide +kernel) ⟨Nat.le_of_ble_eq_true rfl, Nat.le_of_ble_eq_true rfl⟩ hC.x (ci := 2) rfl rfl rfl dX2_sendToGroup_14 rfl (Nat.le_of_ble_eq_true rfl) rfl (zRx_ok (k := 2) (a := 0 + ([] : List zEv).length) (b := 0 + X.2.length) h0X hXT) ?_
  rintro v G9 ⟨rfl, hC⟩
  rw [zmax h0X] at hC
  refine zV.widen (k := 2 + zW m0 (0 + X.2.length)) (n := 6 * 2 + 4 * zW m0 (0 + X.2.length)) (zRx_eq h0X).1 (zRx_eq h0X).2 ?_
  rw [show σ = X.1 from by rw [hX]] at hC
  refine zz_istore_n (pc := 17) C dX2_sendToGroup_17 (Nat.le_of_ble_eq_true rfl) ?_
  refine zz_aload_n (pc := 18) C dX2_sendToGroup_18 rfl ?_
  refine zz_callV (pc := 19) C (c_X2_processEvents l D (N := N) hC hrd.1 hrd.2.1 hrd.2.2) gX2_sendToGroup_X2_processEvents rfl 0 (by decide +kernel) ⟨Nat.le_of_ble_eq_true rfl, Nat.le_of_ble_eq_true rfl⟩ hC.x (ci := 2) rfl rfl rfl dX2_sendToGroup_19 rfl (Nat.le_of_ble_eq_true rfl) rfl (zRx_ok (k := 2) (a := 0 + X.2.length) (b := zCount N X.1 X.2) hXT (Nat.le_refl _)) ?_
  rintro v G9 ⟨rfl, hC⟩
  rw [zmax hXT] at hC
  refine zV.widen (k := 2 + zW m0 (zCount N X.1 X.2)) (n := 6 * 2 + 4 * zW m0 (zCount N X.1 X.2)) (zRx_eq hXT).1 (zRx_eq hXT).2 ?_
  refine zz_iload_n (pc := 22) C dX2_sendToGroup_22 rfl ?_
  exact zzx_ret (zz_ireturn (pc := 23) C dX2_sendToGroup_23 rfl zRx_end.1 zRx_end.2 ⟨TH0, rfl, hC⟩)
theorem fl_X2_type_26 : Cond.fieldLink RX2 26 "Signalpost" "foregroundGroup" "I" ∈ wsX2_type := by decide +kernel
theorem in_X2_type_X2 : ∀ w ∈ u_ws RX2 TX2 4, w ∈ wsX2_type := by decide +kernel
set_option maxHeartbeats 4000000 in
set_option maxRecDepth 100000 in
theorem c_X2_type (l : Launch) (hl : l.stackTraces = false) (D : va_G) {B G : zG} {x tb ev : Nat} {A : Nat → Nat} {σ : zS} {m0 N : Nat} {f9 s9 : Int32} {X : zS × List zEv} (hC : zCl B x tb ev A σ [] 0 m0 G) (hsg : (f9 = 0 ∧ s9 = 1) ∨ (¬ f9 = 0 ∧ s9 = 6)) (hX : X = (σ, zSends σ (σ 22 0) (pn s9) 41)) (hrun : zE1 (σ 21 0 = -1) = 0 → zReady N X) : zxMet D l yX2_type wsX2_type (zRmX 9 229 m0 (zCount N X.1 X.2) 1) [.ref x, .int f9] G (fun v G9 => zE1 (σ 21 0 = -1) = 0 ∧ v = some (.int (nI (zMemL σ (σ 22 0) 41).length)) ∧ zCl B x tb ev A (zFin N X) [] 0 (max m0 (zCount N X.1 X.2)) G9) (fun E => zE1 (σ 21 0 = -1) = 1 ∧ E = "java/lang/IllegalStateException") := by
  refine zxMet_of (cc := cX2_type) (maxL := 3) (ret := (some .int)) (by decide) rfl (Nat.le_of_ble_eq_true rfl) ?_
  intro p e s m args below meth c C hnx h8
  have hsg1 : f9 = 0 → (1 : Int32) = nI (pn s9) := by
    intro z
    rcases hsg with u | u
    · rw [u.2]; decide
    · exact absurd z u.1
  have hsg6 : ¬ f9 = 0 → (6 : Int32) = nI (pn s9) := by
    intro z
    rcases hsg with u | u
    · exact absurd u.1 z
    · rw [u.2]; decide
  refine zz_aload_n (pc := 0) C dX2_type_0 rfl ?_
  refine zzx_callV (pc := 1) C h8 (c_X2_requireTerminal l hl D hC) gX2_type_X2_requireTerminal rfl 0 (by decide +kernel) ⟨Nat.le_of_ble_eq_true rfl, Nat.le_of_ble_eq_true rfl⟩ hC.x (ci := 2) rfl rfl rfl dX2_type_1 rfl (Nat.le_of_ble_eq_true rfl) rfl (zRx_0 (Nat.le_of_ble_eq_true rfl) (Nat.le_of_ble_eq_true rfl)) (fun E hE => zzx_out C hnx (⟨zE1_1 hE.1, hE.2⟩) (zRx_0c (Nat.le_of_ble_eq_true rfl)) (zRx_0s (Nat.le_of_ble_eq_true rfl))) ?_
  rintro v G9 ⟨hrt, rfl, rfl⟩
  have TH0 : zE1 (σ 21 0 = -1) = 0 := zE1_0 hrt
  have hrd := hrun TH0
  have h0X : 0 + ([] : List zEv).length ≤ 0 + X.2.length := Nat.zero_le _
  have hXT : 0 + X.2.length ≤ zCount N X.1 X.2 := by have := zCount_len hrd.1 hrd.2.1; omega
  have hXT2 : 0 + X.2.length ≤ 16384 := Nat.le_trans hXT hrd.2.2
  have hC := zCl_max hC
  refine zV.widen (k := 1 + zW m0 (0 + ([] : List zEv).length)) (n := 6 * 1 + 4 * zW m0 (0 + ([] : List zEv).length)) (Nat.le_trans (Nat.le_of_ble_eq_true rfl : _ ≤ 1) (Nat.le_add_right _ _)) (Nat.le_trans (Nat.le_of_ble_eq_true rfl : _ ≤ 6 * 1) (Nat.le_add_right _ _)) ?_
  refine zz_aload_n (pc := 4) C dX2_type_4 rfl ?_
  refine zz_aload_n (pc := 5) C dX2_type_5 rfl ?_
  refine zz_get (pc := 6) C in_X2_type_X2 (ci := 2) rfl 3 (by decide) (fl_X2_type_26) rfl dX2_type_6 hC.x rfl ?_
  refine zz_iload_n (pc := 9) C dX2_type_9 rfl ?_
  refine zz_if_eq (pc := 10) C (tgt := 18) dX2_type_10 (by decide) (fun hc10 => ?_) (fun hc10 => ?_)
  · refine zz_iconst (pc := 18) C (v := 1) (by decide) dX2_type_18 ?_
    refine zz_callV (pc := 19) C (c_clSends2 l D (q2 := X.2) (g9 := σ 22 0) (s9 := pn s9) hC (by rw [hX]; rfl) hXT2 (hsg1 (Classical.byContradiction (fun z => z hc10)))) gX2_type_X2_appendForMembers rfl 2 (by decide +kernel) ⟨Nat.le_of_ble_eq_true rfl, Nat.le_of_ble_eq_true rfl⟩ hC.x (ci := 2) rfl rfl rfl dX2_type_19 rfl (Nat.le_of_ble_eq_true rfl) rfl (zRx_ok (k := 1) (a := 0 + ([] : List zEv).length) (b := 0 + X.2.length) h0X hXT) ?_
    rintro v G9 ⟨rfl, hC⟩
    rw [zmax h0X] at hC
    refine zV.widen (k := 1 + zW m0 (0 + X.2.length)) (n := 6 * 1 + 4 * zW m0 (0 + X.2.length)) (zRx_eq h0X).1 (zRx_eq h0X).2 ?_
    rw [show σ = X.1 from by rw [hX]] at hC
    refine zz_istore_n (pc := 22) C dX2_type_22 (Nat.le_of_ble_eq_true rfl) ?_
    refine zz_aload_n (pc := 23) C dX2_type_23 rfl ?_
    refine zz_callV (pc := 24) C (c_X2_processEvents l D (N := N) hC hrd.1 hrd.2.1 hrd.2.2) gX2_type_X2_processEvents rfl 0 (by decide +kernel) ⟨Nat.le_of_ble_eq_true rfl, Nat.le_of_ble_eq_true rfl⟩ hC.x (ci := 2) rfl rfl rfl dX2_type_24 rfl (Nat.le_of_ble_eq_true rfl) rfl (zRx_ok (k := 1) (a := 0 + X.2.length) (b := zCount N X.1 X.2) hXT (Nat.le_refl _)) ?_
    rintro v G9 ⟨rfl, hC⟩
    rw [zmax hXT] at hC
    refine zV.widen (k := 1 + zW m0 (zCount N X.1 X.2)) (n := 6 * 1 + 4 * zW m0 (zCount N X.1 X.2)) (zRx_eq hXT).1 (zRx_eq hXT).2 ?_
    refine zz_iload_n (pc := 27) C dX2_type_27 rfl ?_
    exact zzx_ret (zz_ireturn (pc := 28) C dX2_type_28 rfl zRx_end.1 zRx_end.2 ⟨TH0, rfl, hC⟩)
  · refine zz_bipush (pc := 13) C (v := 6) (by decide) dX2_type_13 ?_
    refine zz_goto (pc := 15) C (tgt := 19) dX2_type_15 (by decide) ?_
    refine zz_callV (pc := 19) C (c_clSends2 l D (q2 := X.2) (g9 := σ 22 0) (s9 := pn s9) hC (by rw [hX]; rfl) hXT2 (hsg6 hc10)) gX2_type_X2_appendForMembers rfl 2 (by decide +kernel) ⟨Nat.le_of_ble_eq_true rfl, Nat.le_of_ble_eq_true rfl⟩ hC.x (ci := 2) rfl rfl rfl dX2_type_19 rfl (Nat.le_of_ble_eq_true rfl) rfl (zRx_ok (k := 1) (a := 0 + ([] : List zEv).length) (b := 0 + X.2.length) h0X hXT) ?_
    rintro v G9 ⟨rfl, hC⟩
    rw [zmax h0X] at hC
    refine zV.widen (k := 1 + zW m0 (0 + X.2.length)) (n := 6 * 1 + 4 * zW m0 (0 + X.2.length)) (zRx_eq h0X).1 (zRx_eq h0X).2 ?_
    rw [show σ = X.1 from by rw [hX]] at hC
    refine zz_istore_n (pc := 22) C dX2_type_22 (Nat.le_of_ble_eq_true rfl) ?_
    refine zz_aload_n (pc := 23) C dX2_type_23 rfl ?_
    refine zz_callV (pc := 24) C (c_X2_processEvents l D (N := N) hC hrd.1 hrd.2.1 hrd.2.2) gX2_type_X2_processEvents rfl 0 (by decide +kernel) ⟨Nat.le_of_ble_eq_true rfl, Nat.le_of_ble_eq_true rfl⟩ hC.x (ci := 2) rfl rfl rfl dX2_type_24 rfl (Nat.le_of_ble_eq_true rfl) rfl (zRx_ok (k := 1) (a := 0 + X.2.length) (b := zCount N X.1 X.2) hXT (Nat.le_refl _)) ?_
    rintro v G9 ⟨rfl, hC⟩
    rw [zmax hXT] at hC
    refine zV.widen (k := 1 + zW m0 (zCount N X.1 X.2)) (n := 6 * 1 + 4 * zW m0 (zCount N X.1 X.2)) (zRx_eq hXT).1 (zRx_eq hXT).2 ?_
    refine zz_iload_n (pc := 27) C dX2_type_27 rfl ?_
    exact zzx_ret (zz_ireturn (pc := 28) C dX2_type_28 rfl zRx_end.1 zRx_end.2 ⟨TH0, rfl, hC⟩)
theorem zRx_00 {m a T f l k : Nat} (h2 : a ≤ T) : (k + zW m a) + 0 ≤ (zRmX f l m T k).cells ∧ (6 * k + 4 * zW m a) + 0 ≤ (zRmX f l m T k).slots := by
  have h := zRm_0 (m := m) (f := f) (l := l) h2
  have e1 : (zRmA f l m T).cells = zW m T := rfl
  have e2 : (zRmA f l m T).slots = 4 * zW m T := rfl
  have e3 : (zRmX f l m T k).cells = k + zW m T := rfl
  have e4 : (zRmX f l m T k).slots = 6 * k + 4 * zW m T := rfl
  rw [e1, e2] at h
  rw [e3, e4]
  omega
theorem fl_X2_hangUp_22 : Cond.fieldLink RX2 22 "Signalpost" "terminalHolder" "I" ∈ wsX2_hangUp := by decide +kernel
theorem fl_X2_hangUp_18 : Cond.fieldLink RX2 18 "Signalpost" "events" "LSignalpost$EventQueue;" ∈ wsX2_hangUp := by decide +kernel
theorem in_X2_hangUp_X2 : ∀ w ∈ u_ws RX2 TX2 4, w ∈ wsX2_hangUp := by decide +kernel
set_option maxHeartbeats 4000000 in
set_option maxRecDepth 100000 in
theorem c_X2_hangUp (l : Launch) (hl : l.stackTraces = false) (D : va_G) {B G : zG} {x tb ev : Nat} {A : Nat → Nat} {σ : zS} {m0 N : Nat}  {X : zS × List zEv} (hC : zCl B x tb ev A σ [] 0 m0 G) (hW : zWf σ) (hX : X = (zFreeT σ, [(0, pn (σ 21 0))])) (hrun : zE1 (σ 21 0 = -1) = 0 → zReady N X) : zxMet D l yX2_hangUp wsX2_hangUp (zRmX 9 229 m0 (zCount N X.1 X.2) 1) [.ref x] G (fun v G9 => zE1 (σ 21 0 = -1) = 0 ∧ v = some (.int (σ 21 0)) ∧ zCl B x tb ev A (zFin N X) [] 0 (max m0 (zCount N X.1 X.2)) G9) (fun E => zE1 (σ 21 0 = -1) = 1 ∧ E = "java/lang/IllegalStateException") := by
  refine zxMet_of (cc := cX2_hangUp) (maxL := 2) (ret := (some .int)) (by decide) rfl (Nat.le_of_ble_eq_true rfl) ?_
  intro p e s m args below meth c C hnx h8
  refine zz_aload_n (pc := 0) C dX2_hangUp_0 rfl ?_
  refine zzx_callV (pc := 1) C h8 (c_X2_requireTerminal l hl D hC) gX2_hangUp_X2_requireTerminal rfl 0 (by decide +kernel) ⟨Nat.le_of_ble_eq_true rfl, Nat.le_of_ble_eq_true rfl⟩ hC.x (ci := 2) rfl rfl rfl dX2_hangUp_1 rfl (Nat.le_of_ble_eq_true rfl) rfl (zRx_0 (Nat.le_of_ble_eq_true rfl) (Nat.le_of_ble_eq_true rfl)) (fun E hE => zzx_out C hnx (⟨zE1_1 hE.1, hE.2⟩) (zRx_0c (Nat.le_of_ble_eq_true rfl)) (zRx_0s (Nat.le_of_ble_eq_true rfl))) ?_
  rintro v G9 ⟨hrt, rfl, rfl⟩
  have TH0 : zE1 (σ 21 0 = -1) = 0 := zE1_0 hrt
  have hh1 : σ 21 0 = nI (pn (σ 21 0)) := by
    obtain ⟨g, hg, hg1, hg2⟩ := hW.2.2.2.2.2.2.2.resolve_left hrt
    rw [hg, show pn (nI g) = g from nI_clamp (by omega)]
  have hrd := hrun TH0
  have h0X : 0 + ([] : List zEv).length ≤ 0 + X.2.length := Nat.zero_le _
  have hXT : 0 + X.2.length ≤ zCount N X.1 X.2 := by have := zCount_len hrd.1 hrd.2.1; omega
  have hXT2 : 0 + X.2.length ≤ 16384 := Nat.le_trans hXT hrd.2.2
  have hC := zCl_max hC
  refine zV.widen (k := 1 + zW m0 (0 + ([] : List zEv).length)) (n := 6 * 1 + 4 * zW m0 (0 + ([] : List zEv).length)) (Nat.le_trans (Nat.le_of_ble_eq_true rfl : _ ≤ 1) (Nat.le_add_right _ _)) (Nat.le_trans (Nat.le_of_ble_eq_true rfl : _ ≤ 6 * 1) (Nat.le_add_right _ _)) ?_
  refine zz_aload_n (pc := 4) C dX2_hangUp_4 rfl ?_
  refine zz_get (pc := 5) C in_X2_hangUp_X2 (ci := 2) rfl 2 (by decide) (fl_X2_hangUp_22) rfl dX2_hangUp_5 hC.x rfl ?_
  refine zz_istore_n (pc := 8) C dX2_hangUp_8 (Nat.le_of_ble_eq_true rfl) ?_
  refine zz_aload_n (pc := 9) C dX2_hangUp_9 rfl ?_
  refine zz_callV (pc := 10) C (c_clFreeT l D hC) gX2_hangUp_X2_freeTerminal rfl 0 (by decide +kernel) ⟨Nat.le_of_ble_eq_true rfl, Nat.le_of_ble_eq_true rfl⟩ hC.x (ci := 2) rfl rfl rfl dX2_hangUp_10 rfl (Nat.le_of_ble_eq_true rfl) rfl (zRx_00 (k := 1) (Nat.zero_le _)) ?_
  rintro v G9 ⟨rfl, hC⟩
  refine zV.wid0 ?_
  obtain ⟨fe, hE⟩ := hC.ev
  refine zz_aload_n (pc := 13) C dX2_hangUp_13 rfl ?_
  refine zz_get (pc := 14) C in_X2_hangUp_X2 (ci := 2) rfl 1 (by decide) (fl_X2_hangUp_18) rfl dX2_hangUp_14 hC.x rfl ?_
  refine zz_iconst (pc := 17) C (v := 0) (by decide) dX2_hangUp_17 ?_
  refine zz_iload_n (pc := 18) C dX2_hangUp_18 rfl ?_
  refine zz_callV (pc := 19) C (c_clApp2 l D (q2 := X.2) (e9 := (0, pn (σ 21 0))) hC (by rw [hX]; rfl) hXT2 rfl hh1) gX2_hangUp_X0_append rfl 2 (by decide +kernel) ⟨Nat.le_of_ble_eq_true rfl, Nat.le_of_ble_eq_true rfl⟩ hE (ci := 0) rfl rfl rfl dX2_hangUp_19 rfl (Nat.le_of_ble_eq_true rfl) rfl (zRx_ok (k := 1) (a := 0 + ([] : List zEv).length) (b := 0 + X.2.length) h0X hXT) ?_
  rintro v G9 ⟨rfl, hC⟩
  rw [zmax h0X] at hC
  refine zV.widen (k := 1 + zW m0 (0 + X.2.length)) (n := 6 * 1 + 4 * zW m0 (0 + X.2.length)) (zRx_eq h0X).1 (zRx_eq h0X).2 ?_
  rw [show zFreeT σ = X.1 from by rw [hX]] at hC
  refine zz_aload_n (pc := 22) C dX2_hangUp_22 rfl ?_
  refine zz_callV (pc := 23) C (c_X2_processEvents l D (N := N) hC hrd.1 hrd.2.1 hrd.2.2) gX2_hangUp_X2_processEvents rfl 0 (by decide +kernel) ⟨Nat.le_of_ble_eq_true rfl, Nat.le_of_ble_eq_true rfl⟩ hC.x (ci := 2) rfl rfl rfl dX2_hangUp_23 rfl (Nat.le_of_ble_eq_true rfl) rfl (zRx_ok (k := 1) (a := 0 + X.2.length) (b := zCount N X.1 X.2) hXT (Nat.le_refl _)) ?_
  rintro v G9 ⟨rfl, hC⟩
  rw [zmax hXT] at hC
  refine zV.widen (k := 1 + zW m0 (zCount N X.1 X.2)) (n := 6 * 1 + 4 * zW m0 (zCount N X.1 X.2)) (zRx_eq hXT).1 (zRx_eq hXT).2 ?_
  refine zz_iload_n (pc := 26) C dX2_hangUp_26 rfl ?_
  exact zzx_ret (zz_ireturn (pc := 27) C dX2_hangUp_27 rfl zRx_end.1 zRx_end.2 ⟨TH0, rfl, hC⟩)
