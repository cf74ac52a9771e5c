theorem kc_X2_find_177 : Cond.classLink RX2 177 "java/lang/IndexOutOfBoundsException" ∈ wsX2_find := by decide +kernel
theorem ki_X2_find_177 : Cond.initialized "java/lang/IndexOutOfBoundsException" ∈ wsX2_find := by decide +kernel
theorem ka_X2_find_177 : ∀ w ∈ (vx_atS RX2 181 "java/lang/IndexOutOfBoundsException" ["java/lang/RuntimeException", "java/lang/Exception"]).filter goodWord, w ∈ wsX2_find := by decide +kernel
theorem kb_X2_find_177 : ∀ w ∈ (vx_atS RX2 181 "java/lang/IndexOutOfBoundsException" ["java/lang/RuntimeException", "java/lang/Exception"]).filter (fun w => !goodWord w), w ∈ zFaces := by decide +kernel
theorem kg_X2_find_177 : ∀ w ∈ Cond.classLink RX2 177 "java/lang/IndexOutOfBoundsException" :: Cond.initialized "java/lang/IndexOutOfBoundsException" :: vx_atS RX2 181 "java/lang/IndexOutOfBoundsException" ["java/lang/RuntimeException", "java/lang/Exception"], vx_ot w = true := by decide +kernel
set_option maxHeartbeats 4000000 in
set_option maxRecDepth 100000 in
theorem c_X2_find (l : Launch) (hl : l.stackTraces = false) (D : va_G) {B G : zG} {x tb ev : Nat} {A : Nat → Nat} {σ : zS} {q : List zEv} {h m0 : Nat} {x9 : Int32} (hC : zCl B x tb ev A σ q h m0 G)  : zxMet D l yX2_find wsX2_find ({ frames := 6, cells := 1, slots := 6, locals := 90 } : Room) [.ref x, .int x9] G (fun v G9 => zHere σ x9 ∧ v = some (.ref (A (pn x9))) ∧ G9 = G) (fun E => ¬ zHere σ x9 ∧ E = "java/lang/IndexOutOfBoundsException") := by
  refine zxMet_of (cc := cX2_find) (maxL := 3) (ret := (some (.object "Signalpost$Proc"))) (by decide) rfl (Nat.le_of_ble_eq_true rfl) ?_
  intro p e s m args below meth c C hnx h8
  refine zz_aload_n (pc := 0) C dX2_find_0 rfl ?_
  refine zz_iload_n (pc := 1) C dX2_find_1 rfl ?_
  refine zz_callV (pc := 2) C (c_clLook l D hC (x9 := x9)) gX2_find_X2_lookUp rfl 1 (by decide +kernel) ⟨Nat.le_of_ble_eq_true rfl, Nat.le_of_ble_eq_true rfl⟩ hC.x (ci := 2) rfl rfl rfl dX2_find_2 rfl (Nat.le_of_ble_eq_true rfl) rfl ⟨Nat.le_of_ble_eq_true rfl, Nat.le_of_ble_eq_true rfl⟩ ?_
  rintro v G9 ⟨(⟨hno, rfl⟩ | ⟨hth, rfl⟩), rfl⟩
  · skip
    refine zz_astoreN_n (pc := 5) C dX2_find_5 (Nat.le_of_ble_eq_true rfl) ?_
    refine zz_aloadN_n (pc := 6) C dX2_find_6 rfl ?_
    refine zz_ifnonnullN (pc := 7) C dX2_find_7 ?_
    exact zzx_throw (pc := 10) (cls := "java/lang/IndexOutOfBoundsException") (text := "there is no such process") (names := ["java/lang/RuntimeException", "java/lang/Exception"]) C hnx h8 hl rfl (⟨hno, rfl⟩) (by decide) (by decide) (by decide) kc_X2_find_177 ki_X2_find_177 ka_X2_find_177 kb_X2_find_177 kg_X2_find_177 dX2_find_10 dX2_find_13 dX2_find_14 dX2_find_16 dX2_find_19 rfl (by decide) (by decide) (Nat.le_of_ble_eq_true rfl) (Nat.le_of_ble_eq_true rfl)
  · skip
    refine zz_astore_n (pc := 5) C dX2_find_5 (Nat.le_of_ble_eq_true rfl) ?_
    refine zz_aload_n (pc := 6) C dX2_find_6 rfl ?_
    refine zz_ifnonnull (pc := 7) C (tgt := 20) dX2_find_7 (by decide) ?_
    refine zz_aload_n (pc := 20) C dX2_find_20 rfl ?_
    exact zzx_ret (zz_areturn (pc := 21) C dX2_find_21 (Or.inl ⟨_, rfl⟩) (Or.inr ⟨_, rfl⟩) (Nat.le_of_ble_eq_true rfl) (Nat.le_of_ble_eq_true rfl) ⟨hth, rfl, rfl⟩)
theorem kc_X2_requireRange_78 : Cond.classLink RX2 78 "java/lang/IllegalArgumentException" ∈ wsX2_requireRange := by decide +kernel
theorem ki_X2_requireRange_78 : Cond.initialized "java/lang/IllegalArgumentException" ∈ wsX2_requireRange := by decide +kernel
theorem ka_X2_requireRange_78 : ∀ w ∈ (vx_atS RX2 82 "java/lang/IllegalArgumentException" ["java/lang/RuntimeException", "java/lang/Exception"]).filter goodWord, w ∈ wsX2_requireRange := by decide +kernel
theorem kb_X2_requireRange_78 : ∀ w ∈ (vx_atS RX2 82 "java/lang/IllegalArgumentException" ["java/lang/RuntimeException", "java/lang/Exception"]).filter (fun w => !goodWord w), w ∈ zFaces := by decide +kernel
theorem kg_X2_requireRange_78 : ∀ w ∈ Cond.classLink RX2 78 "java/lang/IllegalArgumentException" :: Cond.initialized "java/lang/IllegalArgumentException" :: vx_atS RX2 82 "java/lang/IllegalArgumentException" ["java/lang/RuntimeException", "java/lang/Exception"], vx_ot w = true := by decide +kernel
set_option maxHeartbeats 4000000 in
set_option maxRecDepth 100000 in
theorem c_X2_requireRange (l : Launch) (hl : l.stackTraces = false) (D : va_G)  {G : zG} {v9 a9 b9 : Int32}   : zxMet D l yX2_requireRange wsX2_requireRange ({ frames := 6, cells := 1, slots := 6, locals := 90 } : Room) [.int v9, .int a9, .int b9] G (fun v G9 => ¬ (v9 < a9 ∨ b9 < v9) ∧ v = none ∧ G9 = G) (fun E => (v9 < a9 ∨ b9 < v9) ∧ E = "java/lang/IllegalArgumentException") := by
  refine zxMet_of (cc := cX2_requireRange) (maxL := 3) (ret := none) (by decide) rfl (Nat.le_of_ble_eq_true rfl) ?_
  intro p e s m args below meth c C hnx h8
  refine zz_iload_n (pc := 0) C dX2_requireRange_0 rfl ?_
  refine zz_iload_n (pc := 1) C dX2_requireRange_1 rfl ?_
  refine zz_icmp_lt (pc := 2) C (tgt := 10) dX2_requireRange_2 (by decide) (fun hc2 => ?_) (fun hc2 => ?_)
  · exact zzx_throw (pc := 10) (cls := "java/lang/IllegalArgumentException") (text := "an argument is out of range") (names := ["java/lang/RuntimeException", "java/lang/Exception"]) C hnx h8 hl rfl (⟨Or.inl hc2, rfl⟩) (by decide) (by decide) (by decide) kc_X2_requireRange_78 ki_X2_requireRange_78 ka_X2_requireRange_78 kb_X2_requireRange_78 kg_X2_requireRange_78 dX2_requireRange_10 dX2_requireRange_13 dX2_requireRange_14 dX2_requireRange_16 dX2_requireRange_19 rfl (by decide) (by decide) (Nat.le_of_ble_eq_true rfl) (Nat.le_of_ble_eq_true rfl)
  · refine zz_iload_n (pc := 5) C dX2_requireRange_5 rfl ?_
    refine zz_iload_n (pc := 6) C dX2_requireRange_6 rfl ?_
    refine zz_icmp_le (pc := 7) C (tgt := 20) dX2_requireRange_7 (by decide) (fun hc7 => ?_) (fun hc7 => ?_)
    · exact zzx_ret (zz_return (pc := 20) C dX2_requireRange_20 (Nat.le_of_ble_eq_true rfl) (Nat.le_of_ble_eq_true rfl) ⟨fun z => z.elim hc2 (fun u => absurd hc7 (Int32.not_le.mpr u)), rfl, rfl⟩)
    · exact zzx_throw (pc := 10) (cls := "java/lang/IllegalArgumentException") (text := "an argument is out of range") (names := ["java/lang/RuntimeException", "java/lang/Exception"]) C hnx h8 hl rfl (⟨Or.inr (Int32.not_le.mp hc7), rfl⟩) (by decide) (by decide) (by decide) kc_X2_requireRange_78 ki_X2_requireRange_78 ka_X2_requireRange_78 kb_X2_requireRange_78 kg_X2_requireRange_78 dX2_requireRange_10 dX2_requireRange_13 dX2_requireRange_14 dX2_requireRange_16 dX2_requireRange_19 rfl (by decide) (by decide) (Nat.le_of_ble_eq_true rfl) (Nat.le_of_ble_eq_true rfl)

set_option maxHeartbeats 4000000 in
set_option maxRecDepth 100000 in
theorem c_X2_requireNumber (l : Launch) (hl : l.stackTraces = false) (D : va_G)  {G : zG} {v9 : Int32}   : zxMet D l yX2_requireNumber wsX2_requireNumber ({ frames := 7, cells := 1, slots := 6, locals := 112 } : Room) [.int v9] G (fun v G9 => ¬ (v9 < 1 ∨ (40 : Int32) < v9) ∧ v = none ∧ G9 = G) (fun E => (v9 < 1 ∨ (40 : Int32) < v9) ∧ E = "java/lang/IllegalArgumentException") := by
  refine zxMet_of (cc := cX2_requireNumber) (maxL := 1) (ret := none) (by decide) rfl (Nat.le_of_ble_eq_true rfl) ?_
  intro p e s m args below meth c C hnx h8
  refine zz_iload_n (pc := 0) C dX2_requireNumber_0 rfl ?_
  refine zz_iconst (pc := 1) C (v := 1) (by decide) dX2_requireNumber_1 ?_
  refine zz_bipush (pc := 2) C (v := 40) (by decide) dX2_requireNumber_2 ?_
  refine zzx_callS (pc := 4) C h8 (c_X2_requireRange l hl D (G := G) (v9 := v9) (a9 := 1) (b9 := 40)) gX2_requireNumber_X2_requireRange rfl 3 (by decide +kernel) ⟨Nat.le_of_ble_eq_true rfl, Nat.le_of_ble_eq_true rfl⟩ rfl dX2_requireNumber_4 rfl (Nat.le_of_ble_eq_true rfl) rfl ⟨Nat.le_of_ble_eq_true rfl, Nat.le_of_ble_eq_true rfl⟩ (fun E hE => zzx_out C hnx (hE) (Nat.le_of_ble_eq_true rfl) (Nat.le_of_ble_eq_true rfl)) ?_
  rintro v G9 ⟨hrr, rfl, rfl⟩
  exact zzx_ret (zz_return (pc := 7) C dX2_requireNumber_7 (Nat.le_of_ble_eq_true rfl) (Nat.le_of_ble_eq_true rfl) ⟨hrr, rfl, rfl⟩)
theorem zCond_0 {σ : zS} {k : Nat} {f : Nat → Int32} (hf : zPF σ k f) : zCond f = 0 ↔ zRunN σ k := by
  unfold zCond zRunN
  rw [hf.2.2.2.2.1, hf.2.2.2.2.2.1, hf.2.2.2.2.2.2.1]
  by_cases h4 : σ 4 k = 0
  · by_cases h5 : σ 5 k = 0
    · by_cases h6 : σ 6 k = 0
      · simp [h4, h5, h6]
      · simp [h4, h5, h6]
    · simp [h4, h5]
  · simp [h4]
theorem fl_X2_requireCaller_151 : Cond.fieldLink RX2 151 "Signalpost$Proc" "pid" "I" ∈ wsX2_requireCaller := by decide +kernel
theorem in_X2_requireCaller_X1 : ∀ w ∈ u_ws RX1 TX1 20, w ∈ wsX2_requireCaller := by decide +kernel
theorem kc_X2_requireCaller_43 : Cond.classLink RX2 43 "java/lang/IllegalStateException" ∈ wsX2_requireCaller := by decide +kernel
theorem ki_X2_requireCaller_43 : Cond.initialized "java/lang/IllegalStateException" ∈ wsX2_requireCaller := by decide +kernel
theorem ka_X2_requireCaller_43 : ∀ w ∈ (vx_atS RX2 47 "java/lang/IllegalStateException" ["java/lang/RuntimeException", "java/lang/Exception"]).filter goodWord, w ∈ wsX2_requireCaller := by decide +kernel
theorem kb_X2_requireCaller_43 : ∀ w ∈ (vx_atS RX2 47 "java/lang/IllegalStateException" ["java/lang/RuntimeException", "java/lang/Exception"]).filter (fun w => !goodWord w), w ∈ zFaces := by decide +kernel
theorem kg_X2_requireCaller_43 : ∀ w ∈ Cond.classLink RX2 43 "java/lang/IllegalStateException" :: Cond.initialized "java/lang/IllegalStateException" :: vx_atS RX2 47 "java/lang/IllegalStateException" ["java/lang/RuntimeException", "java/lang/Exception"], vx_ot w = true := by decide +kernel
set_option maxHeartbeats 4000000 in
set_option maxRecDepth 100000 in
theorem c_X2_requireCaller (l : Launch) (hl : l.stackTraces = false) (D : va_G) {B G : zG} {x tb ev : Nat} {A : Nat → Nat} {σ : zS} {q : List zEv} {h m0 : Nat} {k : Nat} (hC : zCl B x tb ev A σ q h m0 G) (hk : k < 41) (h0 : σ 0 k ≠ 0) : zxMet D l yX2_requireCaller wsX2_requireCaller ({ frames := 6, cells := 1, slots := 6, locals := 90 } : Room) [.ref (A k)] G (fun v G9 => ¬ zNot σ k ∧ v = none ∧ G9 = G) (fun E => zNot σ k ∧ E = "java/lang/IllegalStateException") := by
  refine zxMet_of (cc := cX2_requireCaller) (maxL := 1) (ret := none) (by decide) rfl (Nat.le_of_ble_eq_true rfl) ?_
  intro p e s m args below meth c C hnx h8
  obtain ⟨f, hGa, hPF, _⟩ := hC.at hk h0
  refine zz_aload_n (pc := 0) C dX2_requireCaller_0 rfl ?_
  refine zz_get (pc := 1) C in_X2_requireCaller_X1 (ci := 1) rfl 0 (by decide) (fl_X2_requireCaller_151) rfl dX2_requireCaller_1 hGa rfl ?_
  refine zz_iconst (pc := 4) C (v := 1) (by decide) dX2_requireCaller_4 ?_
  refine zz_icmp_eq (pc := 5) C (tgt := 15) dX2_requireCaller_5 (by decide) (fun hc5 => ?_) (fun hc5 => ?_)
  · exact zzx_throw (pc := 15) (cls := "java/lang/IllegalStateException") (text := "the caller is init, or not running") (names := ["java/lang/RuntimeException", "java/lang/Exception"]) C hnx h8 hl rfl (⟨Or.inl ((nI_eq (by omega) (by decide)).mp (show nI k = nI 1 from hPF.1.symm.trans hc5)), rfl⟩) (by decide) (by decide) (by decide) kc_X2_requireCaller_43 ki_X2_requireCaller_43 ka_X2_requireCaller_43 kb_X2_requireCaller_43 kg_X2_requireCaller_43 dX2_requireCaller_15 dX2_requireCaller_18 dX2_requireCaller_19 dX2_requireCaller_21 dX2_requireCaller_24 rfl (by decide) (by decide) (Nat.le_of_ble_eq_true rfl) (Nat.le_of_ble_eq_true rfl)
  · refine zz_aload_n (pc := 8) C dX2_requireCaller_8 rfl ?_
    refine zz_callV (pc := 9) C (c_X1_condition l D hGa) gX2_requireCaller_X1_condition rfl 0 (by decide +kernel) ⟨Nat.le_of_ble_eq_true rfl, Nat.le_of_ble_eq_true rfl⟩ hGa (ci := 1) rfl rfl rfl dX2_requireCaller_9 rfl (Nat.le_of_ble_eq_true rfl) rfl ⟨Nat.le_of_ble_eq_true rfl, Nat.le_of_ble_eq_true rfl⟩ ?_
    rintro v G9 ⟨rfl, rfl⟩
    refine zz_if_eq (pc := 12) C (tgt := 25) dX2_requireCaller_12 (by decide) (fun hc12 => ?_) (fun hc12 => ?_)
    · exact zzx_ret (zz_return (pc := 25) C dX2_requireCaller_25 (Nat.le_of_ble_eq_true rfl) (Nat.le_of_ble_eq_true rfl) ⟨fun z => z.elim (fun u => hc5 (hPF.1.trans (by rw [u]; rfl))) (fun u => u ((zCond_0 hPF).mp hc12)), rfl, rfl⟩)
    · exact zzx_throw (pc := 15) (cls := "java/lang/IllegalStateException") (text := "the caller is init, or not running") (names := ["java/lang/RuntimeException", "java/lang/Exception"]) C hnx h8 hl rfl (⟨Or.inr (fun z => hc12 ((zCond_0 hPF).mpr z)), rfl⟩) (by decide) (by decide) (by decide) kc_X2_requireCaller_43 ki_X2_requireCaller_43 ka_X2_requireCaller_43 kb_X2_requireCaller_43 kg_X2_requireCaller_43 dX2_requireCaller_15 dX2_requireCaller_18 dX2_requireCaller_19 dX2_requireCaller_21 dX2_requireCaller_24 rfl (by decide) (by decide) (Nat.le_of_ble_eq_true rfl) (Nat.le_of_ble_eq_true rfl)
theorem fl_X2_requireTerminal_22 : Cond.fieldLink RX2 22 "Signalpost" "terminalHolder" "I" ∈ wsX2_requireTerminal := by decide +kernel
theorem in_X2_requireTerminal_X2 : ∀ w ∈ u_ws RX2 TX2 4, w ∈ wsX2_requireTerminal := by decide +kernel
theorem kc_X2_requireTerminal_43 : Cond.classLink RX2 43 "java/lang/IllegalStateException" ∈ wsX2_requireTerminal := by decide +kernel
theorem ki_X2_requireTerminal_43 : Cond.initialized "java/lang/IllegalStateException" ∈ wsX2_requireTerminal := by decide +kernel
theorem ka_X2_requireTerminal_43 : ∀ w ∈ (vx_atS RX2 47 "java/lang/IllegalStateException" ["java/lang/RuntimeException", "java/lang/Exception"]).filter goodWord, w ∈ wsX2_requireTerminal := by decide +kernel
theorem kb_X2_requireTerminal_43 : ∀ w ∈ (vx_atS RX2 47 "java/lang/IllegalStateException" ["java/lang/RuntimeException", "java/lang/Exception"]).filter (fun w => !goodWord w), w ∈ zFaces := by decide +kernel
theorem kg_X2_requireTerminal_43 : ∀ w ∈ Cond.classLink RX2 43 "java/lang/IllegalStateException" :: Cond.initialized "java/lang/IllegalStateException" :: vx_atS RX2 47 "java/lang/IllegalStateException" ["java/lang/RuntimeException", "java/lang/Exception"], vx_ot w = true := by decide +kernel
set_option maxHeartbeats 4000000 in
set_option maxRecDepth 100000 in
theorem c_X2_requireTerminal (l : Launch) (hl : l.stackTraces = false) (D : va_G) {B G : zG} {x tb ev : Nat} {A : Nat → Nat} {σ : zS} {q : List zEv} {h m0 : Nat}  (hC : zCl B x tb ev A σ q h m0 G)  : zxMet D l yX2_requireTerminal wsX2_requireTerminal ({ frames := 6, cells := 1, slots := 6, locals := 90 } : Room) [.ref x] G (fun v G9 => ¬ σ 21 0 = -1 ∧ v = none ∧ G9 = G) (fun E => σ 21 0 = -1 ∧ E = "java/lang/IllegalStateException") := by
  refine zxMet_of (cc := cX2_requireTerminal) (maxL := 1) (ret := none) (by decide) rfl (Nat.le_of_ble_eq_true rfl) ?_
  intro p e s m args below meth c C hnx h8
  refine zz_aload_n (pc := 0) C dX2_requireTerminal_0 rfl ?_
  refine zz_get (pc := 1) C in_X2_requireTerminal_X2 (ci := 2) rfl 2 (by decide) (fl_X2_requireTerminal_22) rfl dX2_requireTerminal_1 hC.x rfl ?_
  refine zz_iconst (pc := 4) C (v := -1) (by decide) dX2_requireTerminal_4 ?_
  refine zz_icmp_ne (pc := 5) C (tgt := 18) dX2_requireTerminal_5 (by decide) (fun hc5 => ?_) (fun hc5 => ?_)
  · exact zzx_ret (zz_return (pc := 18) C dX2_requireTerminal_18 (Nat.le_of_ble_eq_true rfl) (Nat.le_of_ble_eq_true rfl) ⟨fun z => hc5 z, rfl, rfl⟩)
  · exact zzx_throw (pc := 8) (cls := "java/lang/IllegalStateException") (text := "no session has the terminal") (names := ["java/lang/RuntimeException", "java/lang/Exception"]) C hnx h8 hl rfl (⟨Classical.not_not.mp hc5, rfl⟩) (by decide) (by decide) (by decide) kc_X2_requireTerminal_43 ki_X2_requireTerminal_43 ka_X2_requireTerminal_43 kb_X2_requireTerminal_43 kg_X2_requireTerminal_43 dX2_requireTerminal_8 dX2_requireTerminal_11 dX2_requireTerminal_12 dX2_requireTerminal_14 dX2_requireTerminal_17 rfl (by decide) (by decide) (Nat.le_of_ble_eq_true rfl) (Nat.le_of_ble_eq_true rfl)
theorem fl_X2_group_103 : Cond.fieldLink RX2 103 "Signalpost$Proc" "group" "I" ∈ wsX2_group := by decide +kernel
theorem in_X2_group_X1 : ∀ w ∈ u_ws RX1 TX1 20, w ∈ wsX2_group := by decide +kernel
set_option maxHeartbeats 4000000 in
set_option maxRecDepth 100000 in
theorem c_X2_group (l : Launch) (hl : l.stackTraces = false) (D : va_G) {B G : zG} {x tb ev : Nat} {A : Nat → Nat} {σ : zS} {q : List zEv} {h m0 : Nat} {x9 : Int32} (hC : zCl B x tb ev A σ q h m0 G)  : zxMet D l yX2_group wsX2_group ({ frames := 7, cells := 1, slots := 6, locals := 112 } : Room) [.ref x, .int x9] G (fun v G9 => zE1 (¬ zHere σ x9) = 0 ∧ v = some (.int (σ 2 (pn x9))) ∧ G9 = G) (fun E => zE1 (¬ zHere σ x9) = 1 ∧ E = "java/lang/IndexOutOfBoundsException") := by
  refine zxMet_of (cc := cX2_group) (maxL := 2) (ret := (some .int)) (by decide) rfl (Nat.le_of_ble_eq_true rfl) ?_
  intro p e s m args below meth c C hnx h8
  refine zz_aload_n (pc := 0) C dX2_group_0 rfl ?_
  refine zz_iload_n (pc := 1) C dX2_group_1 rfl ?_
  refine zzx_callV (pc := 2) C h8 (c_X2_find l hl D hC (x9 := x9)) gX2_group_X2_find rfl 1 (by decide +kernel) ⟨Nat.le_of_ble_eq_true rfl, Nat.le_of_ble_eq_true rfl⟩ hC.x (ci := 2) rfl rfl rfl dX2_group_2 rfl (Nat.le_of_ble_eq_true rfl) rfl ⟨Nat.le_of_ble_eq_true rfl, Nat.le_of_ble_eq_true rfl⟩ (fun E hE => zzx_out C hnx (⟨zE1_1 hE.1, hE.2⟩) (Nat.le_of_ble_eq_true rfl) (Nat.le_of_ble_eq_true rfl)) ?_
  rintro v G9 ⟨hth, rfl, rfl⟩
  obtain ⟨hx1, hx2, hx3⟩ := hth.at
  obtain ⟨f, hGa, hPF, _⟩ := hC.at (k := pn x9) hx3 hth.2.2
  refine zz_get (pc := 5) C in_X2_group_X1 (ci := 1) rfl 2 (by decide) (fl_X2_group_103) rfl dX2_group_5 hGa rfl ?_
  exact zzx_ret (zz_ireturn (pc := 8) C dX2_group_8 rfl (Nat.le_of_ble_eq_true rfl) (Nat.le_of_ble_eq_true rfl) ⟨zE1_0 (fun z => z hth), by rw [hPF.2.1], rfl⟩)
theorem fl_X2_session_106 : Cond.fieldLink RX2 106 "Signalpost$Proc" "session" "I" ∈ wsX2_session := by decide +kernel
theorem in_X2_session_X1 : ∀ w ∈ u_ws RX1 TX1 20, w ∈ wsX2_session := by decide +kernel
set_option maxHeartbeats 4000000 in
set_option maxRecDepth 100000 in
theorem c_X2_session (l : Launch) (hl : l.stackTraces = false) (D : va_G) {B G : zG} {x tb ev : Nat} {A : Nat → Nat} {σ : zS} {q : List zEv} {h m0 : Nat} {x9 : Int32} (hC : zCl B x tb ev A σ q h m0 G)  : zxMet D l yX2_session wsX2_session ({ frames := 7, cells := 1, slots := 6, locals := 112 } : Room) [.ref x, .int x9] G (fun v G9 => zE1 (¬ zHere σ x9) = 0 ∧ v = some (.int (σ 3 (pn x9))) ∧ G9 = G) (fun E => zE1 (¬ zHere σ x9) = 1 ∧ E = "java/lang/IndexOutOfBoundsException") := by
  refine zxMet_of (cc := cX2_session) (maxL := 2) (ret := (some .int)) (by decide) rfl (Nat.le_of_ble_eq_true rfl) ?_
  intro p e s m args below meth c C hnx h8
  refine zz_aload_n (pc := 0) C dX2_session_0 rfl ?_
  refine zz_iload_n (pc := 1) C dX2_session_1 rfl ?_
  refine zzx_callV (pc := 2) C h8 (c_X2_find l hl D hC (x9 := x9)) gX2_session_X2_find rfl 1 (by decide +kernel) ⟨Nat.le_of_ble_eq_true rfl, Nat.le_of_ble_eq_true rfl⟩ hC.x (ci := 2) rfl rfl rfl dX2_session_2 rfl (Nat.le_of_ble_eq_true rfl) rfl ⟨Nat.le_of_ble_eq_true rfl, Nat.le_of_ble_eq_true rfl⟩ (fun E hE => zzx_out C hnx (⟨zE1_1 hE.1, hE.2⟩) (Nat.le_of_ble_eq_true rfl) (Nat.le_of_ble_eq_true rfl)) ?_
  rintro v G9 ⟨hth, rfl, rfl⟩
  obtain ⟨hx1, hx2, hx3⟩ := hth.at
  obtain ⟨f, hGa, hPF, _⟩ := hC.at (k := pn x9) hx3 hth.2.2
  refine zz_get (pc := 5) C in_X2_session_X1 (ci := 1) rfl 3 (by decide) (fl_X2_session_106) rfl dX2_session_5 hGa rfl ?_
  exact zzx_ret (zz_ireturn (pc := 8) C dX2_session_8 rfl (Nat.le_of_ble_eq_true rfl) (Nat.le_of_ble_eq_true rfl) ⟨zE1_0 (fun z => z hth), by rw [hPF.2.2.1], rfl⟩)
theorem fl_X2_pending_154 : Cond.fieldLink RX2 154 "Signalpost$Proc" "pending" "I" ∈ wsX2_pending := by decide +kernel
theorem in_X2_pending_X1 : ∀ w ∈ u_ws RX1 TX1 20, w ∈ wsX2_pending := by decide +kernel
set_option maxHeartbeats 4000000 in
set_option maxRecDepth 100000 in
theorem c_X2_pending (l : Launch) (hl : l.stackTraces = false) (D : va_G) {B G : zG} {x tb ev : Nat} {A : Nat → Nat} {σ : zS} {q : List zEv} {h m0 : Nat} {x9 : Int32} (hC : zCl B x tb ev A σ q h m0 G)  : zxMet D l yX2_pending wsX2_pending ({ frames := 7, cells := 1, slots := 6, locals := 112 } : Room) [.ref x, .int x9] G (fun v G9 => zE1 (¬ zHere σ x9) = 0 ∧ v = some (.int (σ 11 (pn x9))) ∧ G9 = G) (fun E => zE1 (¬ zHere σ x9) = 1 ∧ E = "java/lang/IndexOutOfBoundsException") := by
  refine zxMet_of (cc := cX2_pending) (maxL := 2) (ret := (some .int)) (by decide) rfl (Nat.le_of_ble_eq_true rfl) ?_
  intro p e s m args below meth c C hnx h8
  refine zz_aload_n (pc := 0) C dX2_pending_0 rfl ?_
  refine zz_iload_n (pc := 1) C dX2_pending_1 rfl ?_
  refine zzx_callV (pc := 2) C h8 (c_X2_find l hl D hC (x9 := x9)) gX2_pending_X2_find rfl 1 (by decide +kernel) ⟨Nat.le_of_ble_eq_true rfl, Nat.le_of_ble_eq_true rfl⟩ hC.x (ci := 2) rfl rfl rfl dX2_pending_2 rfl (Nat.le_of_ble_eq_true rfl) rfl ⟨Nat.le_of_ble_eq_true rfl, Nat.le_of_ble_eq_true rfl⟩ (fun E hE => zzx_out C hnx (⟨zE1_1 hE.1, hE.2⟩) (Nat.le_of_ble_eq_true rfl) (Nat.le_of_ble_eq_true rfl)) ?_
  rintro v G9 ⟨hth, rfl, rfl⟩
  obtain ⟨hx1, hx2, hx3⟩ := hth.at
  obtain ⟨f, hGa, hPF, _⟩ := hC.at (k := pn x9) hx3 hth.2.2
  refine zz_get (pc := 5) C in_X2_pending_X1 (ci := 1) rfl 15 (by decide) (fl_X2_pending_154) rfl dX2_pending_5 hGa rfl ?_
  exact zzx_ret (zz_ireturn (pc := 8) C dX2_pending_8 rfl (Nat.le_of_ble_eq_true rfl) (Nat.le_of_ble_eq_true rfl) ⟨zE1_0 (fun z => z hth), by rw [hPF.2.2.2.2.2.2.2.2.2.2.2.2.2.1], rfl⟩)
theorem fl_X2_caught_157 : Cond.fieldLink RX2 157 "Signalpost$Proc" "caught" "I" ∈ wsX2_caught := by decide +kernel
theorem in_X2_caught_X1 : ∀ w ∈ u_ws RX1 TX1 20, w ∈ wsX2_caught := by decide +kernel
set_option maxHeartbeats 4000000 in
set_option maxRecDepth 100000 in
theorem c_X2_caught (l : Launch) (hl : l.stackTraces = false) (D : va_G) {B G : zG} {x tb ev : Nat} {A : Nat → Nat} {σ : zS} {q : List zEv} {h m0 : Nat} {x9 : Int32} (hC : zCl B x tb ev A σ q h m0 G)  : zxMet D l yX2_caught wsX2_caught ({ frames := 7, cells := 1, slots := 6, locals := 112 } : Room) [.ref x, .int x9] G (fun v G9 => zE1 (¬ zHere σ x9) = 0 ∧ v = some (.int (σ 12 (pn x9))) ∧ G9 = G) (fun E => zE1 (¬ zHere σ x9) = 1 ∧ E = "java/lang/IndexOutOfBoundsException") := by
  refine zxMet_of (cc := cX2_caught) (maxL := 2) (ret := (some .int)) (by decide) rfl (Nat.le_of_ble_eq_true rfl) ?_
  intro p e s m args below meth c C hnx h8
  refine zz_aload_n (pc := 0) C dX2_caught_0 rfl ?_
  refine zz_iload_n (pc := 1) C dX2_caught_1 rfl ?_
  refine zzx_callV (pc := 2) C h8 (c_X2_find l hl D hC (x9 := x9)) gX2_caught_X2_find rfl 1 (by decide +kernel) ⟨Nat.le_of_ble_eq_true rfl, Nat.le_of_ble_eq_true rfl⟩ hC.x (ci := 2) rfl rfl rfl dX2_caught_2 rfl (Nat.le_of_ble_eq_true rfl) rfl ⟨Nat.le_of_ble_eq_true rfl, Nat.le_of_ble_eq_true rfl⟩ (fun E hE => zzx_out C hnx (⟨zE1_1 hE.1, hE.2⟩) (Nat.le_of_ble_eq_true rfl) (Nat.le_of_ble_eq_true rfl)) ?_
  rintro v G9 ⟨hth, rfl, rfl⟩
  obtain ⟨hx1, hx2, hx3⟩ := hth.at
  obtain ⟨f, hGa, hPF, _⟩ := hC.at (k := pn x9) hx3 hth.2.2
  refine zz_get (pc := 5) C in_X2_caught_X1 (ci := 1) rfl 16 (by decide) (fl_X2_caught_157) rfl dX2_caught_5 hGa rfl ?_
  exact zzx_ret (zz_ireturn (pc := 8) C dX2_caught_8 rfl (Nat.le_of_ble_eq_true rfl) (Nat.le_of_ble_eq_true rfl) ⟨zE1_0 (fun z => z hth), by rw [hPF.2.2.2.2.2.2.2.2.2.2.2.2.2.2.1], rfl⟩)
theorem fl_X2_waitResult_168 : Cond.fieldLink RX2 168 "Signalpost$Proc" "waitResult" "I" ∈ wsX2_waitResult := by decide +kernel
theorem in_X2_waitResult_X1 : ∀ w ∈ u_ws RX1 TX1 20, w ∈ wsX2_waitResult := by decide +kernel
set_option maxHeartbeats 4000000 in
set_option maxRecDepth 100000 in
theorem c_X2_waitResult (l : Launch) (hl : l.stackTraces = false) (D : va_G) {B G : zG} {x tb ev : Nat} {A : Nat → Nat} {σ : zS} {q : List zEv} {h m0 : Nat} {x9 : Int32} (hC : zCl B x tb ev A σ q h m0 G)  : zxMet D l yX2_waitResult wsX2_waitResult ({ frames := 7, cells := 1, slots := 6, locals := 112 } : Room) [.ref x, .int x9] G (fun v G9 => zE1 (¬ zHere σ x9) = 0 ∧ v = some (.int (σ 18 (pn x9))) ∧ G9 = G) (fun E => zE1 (¬ zHere σ x9) = 1 ∧ E = "java/lang/IndexOutOfBoundsException") := by
  refine zxMet_of (cc := cX2_waitResult) (maxL := 2) (ret := (some .int)) (by decide) rfl (Nat.le_of_ble_eq_true rfl) ?_
  intro p e s m args below meth c C hnx h8
  refine zz_aload_n (pc := 0) C dX2_waitResult_0 rfl ?_
  refine zz_iload_n (pc := 1) C dX2_waitResult_1 rfl ?_
  refine zzx_callV (pc := 2) C h8 (c_X2_find l hl D hC (x9 := x9)) gX2_waitResult_X2_find rfl 1 (by decide +kernel) ⟨Nat.le_of_ble_eq_true rfl, Nat.le_of_ble_eq_true rfl⟩ hC.x (ci := 2) rfl rfl rfl dX2_waitResult_2 rfl (Nat.le_of_ble_eq_true rfl) rfl ⟨Nat.le_of_ble_eq_true rfl, Nat.le_of_ble_eq_true rfl⟩ (fun E hE => zzx_out C hnx (⟨zE1_1 hE.1, hE.2⟩) (Nat.le_of_ble_eq_true rfl) (Nat.le_of_ble_eq_true rfl)) ?_
  rintro v G9 ⟨hth, rfl, rfl⟩
  obtain ⟨hx1, hx2, hx3⟩ := hth.at
  obtain ⟨f, hGa, hPF, _⟩ := hC.at (k := pn x9) hx3 hth.2.2
  refine zz_get (pc := 5) C in_X2_waitResult_X1 (ci := 1) rfl 17 (by decide) (fl_X2_waitResult_168) rfl dX2_waitResult_5 hGa rfl ?_
  exact zzx_ret (zz_ireturn (pc := 8) C dX2_waitResult_8 rfl (Nat.le_of_ble_eq_true rfl) (Nat.le_of_ble_eq_true rfl) ⟨zE1_0 (fun z => z hth), by rw [hPF.2.2.2.2.2.2.2.2.2.2.2.2.2.2.2.1], rfl⟩)
theorem fl_X2_reportedChild_171 : Cond.fieldLink RX2 171 "Signalpost$Proc" "reportedChild" "I" ∈ wsX2_reportedChild := by decide +kernel
theorem in_X2_reportedChild_X1 : ∀ w ∈ u_ws RX1 TX1 20, w ∈ wsX2_reportedChild := by decide +kernel
set_option maxHeartbeats 4000000 in
set_option maxRecDepth 100000 in
theorem c_X2_reportedChild (l : Launch) (hl : l.stackTraces = false) (D : va_G) {B G : zG} {x tb ev : Nat} {A : Nat → Nat} {σ : zS} {q : List zEv} {h m0 : Nat} {x9 : Int32} (hC : zCl B x tb ev A σ q h m0 G)  : zxMet D l yX2_reportedChild wsX2_reportedChild ({ frames := 7, cells := 1, slots := 6, locals := 112 } : Room) [.ref x, .int x9] G (fun v G9 => zE1 (¬ zHere σ x9) = 0 ∧ v = some (.int (σ 19 (pn x9))) ∧ G9 = G) (fun E => zE1 (¬ zHere σ x9) = 1 ∧ E = "java/lang/IndexOutOfBoundsException") := by
  refine zxMet_of (cc := cX2_reportedChild) (maxL := 2) (ret := (some .int)) (by decide) rfl (Nat.le_of_ble_eq_true rfl) ?_
  intro p e s m args below meth c C hnx h8
  refine zz_aload_n (pc := 0) C dX2_reportedChild_0 rfl ?_
  refine zz_iload_n (pc := 1) C dX2_reportedChild_1 rfl ?_
  refine zzx_callV (pc := 2) C h8 (c_X2_find l hl D hC (x9 := x9)) gX2_reportedChild_X2_find rfl 1 (by decide +kernel) ⟨Nat.le_of_ble_eq_true rfl, Nat.le_of_ble_eq_true rfl⟩ hC.x (ci := 2) rfl rfl rfl dX2_reportedChild_2 rfl (Nat.le_of_ble_eq_true rfl) rfl ⟨Nat.le_of_ble_eq_true rfl, Nat.le_of_ble_eq_true rfl⟩ (fun E hE => zzx_out C hnx (⟨zE1_1 hE.1, hE.2⟩) (Nat.le_of_ble_eq_true rfl) (Nat.le_of_ble_eq_true rfl)) ?_
  rintro v G9 ⟨hth, rfl, rfl⟩
  obtain ⟨hx1, hx2, hx3⟩ := hth.at
  obtain ⟨f, hGa, hPF, _⟩ := hC.at (k := pn x9) hx3 hth.2.2
  refine zz_get (pc := 5) C in_X2_reportedChild_X1 (ci := 1) rfl 18 (by decide) (fl_X2_reportedChild_171) rfl dX2_reportedChild_5 hGa rfl ?_
  exact zzx_ret (zz_ireturn (pc := 8) C dX2_reportedChild_8 rfl (Nat.le_of_ble_eq_true rfl) (Nat.le_of_ble_eq_true rfl) ⟨zE1_0 (fun z => z hth), by rw [hPF.2.2.2.2.2.2.2.2.2.2.2.2.2.2.2.2.1], rfl⟩)
theorem fl_X2_reportedValue_174 : Cond.fieldLink RX2 174 "Signalpost$Proc" "reportedValue" "I" ∈ wsX2_reportedValue := by decide +kernel
theorem in_X2_reportedValue_X1 : ∀ w ∈ u_ws RX1 TX1 20, w ∈ wsX2_reportedValue := by decide +kernel
set_option maxHeartbeats 4000000 in
set_option maxRecDepth 100000 in
theorem c_X2_reportedValue (l : Launch) (hl : l.stackTraces = false) (D : va_G) {B G : zG} {x tb ev : Nat} {A : Nat → Nat} {σ : zS} {q : List zEv} {h m0 : Nat} {x9 : Int32} (hC : zCl B x tb ev A σ q h m0 G)  : zxMet D l yX2_reportedValue wsX2_reportedValue ({ frames := 7, cells := 1, slots := 6, locals := 112 } : Room) [.ref x, .int x9] G (fun v G9 => zE1 (¬ zHere σ x9) = 0 ∧ v = some (.int (σ 20 (pn x9))) ∧ G9 = G) (fun E => zE1 (¬ zHere σ x9) = 1 ∧ E = "java/lang/IndexOutOfBoundsException") := by
  refine zxMet_of (cc := cX2_reportedValue) (maxL := 2) (ret := (some .int)) (by decide) rfl (Nat.le_of_ble_eq_true rfl) ?_
  intro p e s m args below meth c C hnx h8
  refine zz_aload_n (pc := 0) C dX2_reportedValue_0 rfl ?_
  refine zz_iload_n (pc := 1) C dX2_reportedValue_1 rfl ?_
  refine zzx_callV (pc := 2) C h8 (c_X2_find l hl D hC (x9 := x9)) gX2_reportedValue_X2_find rfl 1 (by decide +kernel) ⟨Nat.le_of_ble_eq_true rfl, Nat.le_of_ble_eq_true rfl⟩ hC.x (ci := 2) rfl rfl rfl dX2_reportedValue_2 rfl (Nat.le_of_ble_eq_true rfl) rfl ⟨Nat.le_of_ble_eq_true rfl, Nat.le_of_ble_eq_true rfl⟩ (fun E hE => zzx_out C hnx (⟨zE1_1 hE.1, hE.2⟩) (Nat.le_of_ble_eq_true rfl) (Nat.le_of_ble_eq_true rfl)) ?_
  rintro v G9 ⟨hth, rfl, rfl⟩
  obtain ⟨hx1, hx2, hx3⟩ := hth.at
  obtain ⟨f, hGa, hPF, _⟩ := hC.at (k := pn x9) hx3 hth.2.2
  refine zz_get (pc := 5) C in_X2_reportedValue_X1 (ci := 1) rfl 19 (by decide) (fl_X2_reportedValue_174) rfl dX2_reportedValue_5 hGa rfl ?_
  exact zzx_ret (zz_ireturn (pc := 8) C dX2_reportedValue_8 rfl (Nat.le_of_ble_eq_true rfl) (Nat.le_of_ble_eq_true rfl) ⟨zE1_0 (fun z => z hth), by rw [hPF.2.2.2.2.2.2.2.2.2.2.2.2.2.2.2.2.2], rfl⟩)
