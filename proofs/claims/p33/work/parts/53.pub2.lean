
set_option maxHeartbeats 4000000 in
set_option maxRecDepth 100000 in
theorem c_X2_exists (l : Launch) (hl : l.stackTraces = false) (D : va_G) {B G : zG} {x tb ev : Nat} {A : Nat → Nat} {σ : zS} {q : List zEv} {h m0 : Nat} {x9 : Int32} (hC : zCl B x tb ev A σ q h m0 G)  : zxMet D l yX2_exists wsX2_exists ({ frames := 8, cells := 1, slots := 6, locals := 132 } : Room) [.ref x, .int x9] G (fun v G9 => zE1 (x9 < 1 ∨ (40 : Int32) < x9) = 0 ∧ v = some (.int (zb (σ 0 (pn x9) ≠ 0))) ∧ G9 = G) (fun E => zE1 (x9 < 1 ∨ (40 : Int32) < x9) = 1 ∧ E = "java/lang/IllegalArgumentException") := by
  refine zxMet_of (cc := cX2_exists) (maxL := 2) (ret := (some .boolean)) (by decide) rfl (Nat.le_of_ble_eq_true rfl) ?_
  intro p e s m args below meth c C hnx h8
  refine zz_iload_n (pc := 0) C dX2_exists_0 rfl ?_
  refine zzx_callS (pc := 1) C h8 (c_X2_requireNumber l hl D (v9 := x9)) gX2_exists_X2_requireNumber rfl 1 (by decide +kernel) ⟨Nat.le_of_ble_eq_true rfl, Nat.le_of_ble_eq_true rfl⟩ rfl dX2_exists_1 rfl (Nat.le_of_ble_eq_true rfl) rfl ⟨Nat.le_of_ble_eq_true rfl, Nat.le_of_ble_eq_true rfl⟩ (fun E hE => zzx_out C hnx (⟨zE1_1 hE.1, hE.2⟩) (Nat.le_of_ble_eq_true rfl) (Nat.le_of_ble_eq_true rfl)) ?_
  rintro v G9 ⟨hrr, rfl, rfl⟩
  refine zz_aload_n (pc := 4) C dX2_exists_4 rfl ?_
  refine zz_iload_n (pc := 5) C dX2_exists_5 rfl ?_
  have hz : 0 < x9 ∧ x9 ≤ 40 := ⟨z1le0 (fun u => hrr (Or.inl u)), Int32.not_lt.mp (fun u => hrr (Or.inr u))⟩
  refine zz_callV (pc := 6) C (c_clLook l D hC (x9 := x9)) gX2_exists_X2_lookUp rfl 1 (by decide +kernel) ⟨Nat.le_of_ble_eq_true rfl, Nat.le_of_ble_eq_true rfl⟩ hC.x (ci := 2) rfl rfl rfl dX2_exists_6 rfl (Nat.le_of_ble_eq_true rfl) rfl ⟨Nat.le_of_ble_eq_true rfl, Nat.le_of_ble_eq_true rfl⟩ ?_
  rintro v G9 ⟨(⟨hno, rfl⟩ | ⟨hth, rfl⟩), rfl⟩
  · skip
    refine zz_ifnullN (pc := 9) C (tgt := 16) dX2_exists_9 (by decide) ?_
    refine zz_iconst (pc := 16) C (v := 0) (by decide) dX2_exists_16 ?_
    exact zzx_ret (zz_ireturn (pc := 17) C dX2_exists_17 rfl (Nat.le_of_ble_eq_true rfl) (Nat.le_of_ble_eq_true rfl) ⟨zE1_0 hrr, zvf (fun z => hno ⟨hz.1, hz.2, z⟩), rfl⟩)
  · skip
    refine zz_ifnull (pc := 9) C dX2_exists_9 ?_
    refine zz_iconst (pc := 12) C (v := 1) (by decide) dX2_exists_12 ?_
    refine zz_goto (pc := 13) C (tgt := 17) dX2_exists_13 (by decide) ?_
    exact zzx_ret (zz_ireturn (pc := 17) C dX2_exists_17 rfl (Nat.le_of_ble_eq_true rfl) (Nat.le_of_ble_eq_true rfl) ⟨zE1_0 hrr, zvt hth.2.2, rfl⟩)
theorem zCond_con {σ : zS} {k : Nat} {f : Nat → Int32} (hf : zPF σ k f) : zCond f = zCon σ k := by
  unfold zCond zCon
  rw [hf.2.2.2.2.1, hf.2.2.2.2.2.1, hf.2.2.2.2.2.2.1]

set_option maxHeartbeats 4000000 in
set_option maxRecDepth 100000 in
theorem c_X2_state (l : Launch) (hl : l.stackTraces = false) (D : va_G) {B G : zG} {x tb ev : Nat} {A : Nat → Nat} {σ : zS} {q : List zEv} {h m0 : Nat} {x9 : Int32} (hC : zCl B x tb ev A σ q h m0 G)  : zxMet D l yX2_state wsX2_state ({ frames := 7, cells := 1, slots := 6, locals := 112 } : Room) [.ref x, .int x9] G (fun v G9 => zE1 (¬ zHere σ x9) = 0 ∧ v = some (.int (zCon σ (pn x9))) ∧ G9 = G) (fun E => zE1 (¬ zHere σ x9) = 1 ∧ E = "java/lang/IndexOutOfBoundsException") := by
  refine zxMet_of (cc := cX2_state) (maxL := 2) (ret := (some .int)) (by decide) rfl (Nat.le_of_ble_eq_true rfl) ?_
  intro p e s m args below meth c C hnx h8
  refine zz_aload_n (pc := 0) C dX2_state_0 rfl ?_
  refine zz_iload_n (pc := 1) C dX2_state_1 rfl ?_
  refine zzx_callV (pc := 2) C h8 (c_X2_find l hl D hC (x9 := x9)) gX2_state_X2_find rfl 1 (by decide +kernel) ⟨Nat.le_of_ble_eq_true rfl, Nat.le_of_ble_eq_true rfl⟩ hC.x (ci := 2) rfl rfl rfl dX2_state_2 rfl (Nat.le_of_ble_eq_true rfl) rfl ⟨Nat.le_of_ble_eq_true rfl, Nat.le_of_ble_eq_true rfl⟩ (fun E hE => zzx_out C hnx (⟨zE1_1 hE.1, hE.2⟩) (Nat.le_of_ble_eq_true rfl) (Nat.le_of_ble_eq_true rfl)) ?_
  rintro v G9 ⟨hth, rfl, rfl⟩
  obtain ⟨hx1, hx2, hx3⟩ := hth.at
  obtain ⟨f, hGa, hPF, hup⟩ := hC.at (k := pn x9) hx3 hth.2.2
  refine zz_callV (pc := 5) C (c_X1_condition l D hGa) gX2_state_X1_condition rfl 0 (by decide +kernel) ⟨Nat.le_of_ble_eq_true rfl, Nat.le_of_ble_eq_true rfl⟩ hGa (ci := 1) rfl rfl rfl dX2_state_5 rfl (Nat.le_of_ble_eq_true rfl) rfl ⟨Nat.le_of_ble_eq_true rfl, Nat.le_of_ble_eq_true rfl⟩ ?_
  rintro v G9 ⟨rfl, rfl⟩
  exact zzx_ret (zz_ireturn (pc := 8) C dX2_state_8 rfl (Nat.le_of_ble_eq_true rfl) (Nat.le_of_ble_eq_true rfl) ⟨zE1_0 (fun z => z hth), by rw [zCond_con hPF], rfl⟩)
theorem fl_X2_parent_147 : Cond.fieldLink RX2 147 "Signalpost$Proc" "parent" "LSignalpost$Proc;" ∈ wsX2_parent := by decide +kernel
theorem fl_X2_parent_151 : Cond.fieldLink RX2 151 "Signalpost$Proc" "pid" "I" ∈ wsX2_parent := by decide +kernel
theorem in_X2_parent_X1 : ∀ w ∈ u_ws RX1 TX1 20, w ∈ wsX2_parent := by decide +kernel
set_option maxHeartbeats 4000000 in
set_option maxRecDepth 100000 in
theorem c_X2_parent (l : Launch) (hl : l.stackTraces = false) (D : va_G) {B G : zG} {x tb ev : Nat} {A : Nat → Nat} {σ : zS} {q : List zEv} {h m0 : Nat} {x9 : Int32} (hC : zCl B x tb ev A σ q h m0 G) (hW : zWf σ) : zxMet D l yX2_parent wsX2_parent ({ frames := 7, cells := 1, slots := 6, locals := 112 } : Room) [.ref x, .int x9] G (fun v G9 => zE1 (¬ zHere σ x9) = 0 ∧ v = some (.int (σ 1 (pn x9))) ∧ G9 = G) (fun E => zE1 (¬ zHere σ x9) = 1 ∧ E = "java/lang/IndexOutOfBoundsException") := by
  refine zxMet_of (cc := cX2_parent) (maxL := 3) (ret := (some .int)) (by decide) rfl (Nat.le_of_ble_eq_true rfl) ?_
  intro p e s m args below meth c C hnx h8
  refine zz_aload_n (pc := 0) C dX2_parent_0 rfl ?_
  refine zz_iload_n (pc := 1) C dX2_parent_1 rfl ?_
  refine zzx_callV (pc := 2) C h8 (c_X2_find l hl D hC (x9 := x9)) gX2_parent_X2_find rfl 1 (by decide +kernel) ⟨Nat.le_of_ble_eq_true rfl, Nat.le_of_ble_eq_true rfl⟩ hC.x (ci := 2) rfl rfl rfl dX2_parent_2 rfl (Nat.le_of_ble_eq_true rfl) rfl ⟨Nat.le_of_ble_eq_true rfl, Nat.le_of_ble_eq_true rfl⟩ (fun E hE => zzx_out C hnx (⟨zE1_1 hE.1, hE.2⟩) (Nat.le_of_ble_eq_true rfl) (Nat.le_of_ble_eq_true rfl)) ?_
  rintro v G9 ⟨hth, rfl, rfl⟩
  obtain ⟨hx1, hx2, hx3⟩ := hth.at
  obtain ⟨f, hGa, hPF, hup⟩ := hC.at (k := pn x9) hx3 hth.2.2
  by_cases hk1 : pn x9 = 1
  · rw [show zPar (zTA σ A) σ (pn x9) = .null from by rw [hk1]; exact zPar_1] at hGa
    refine zz_get (pc := 5) C in_X2_parent_X1 (ci := 1) rfl 1 (by decide) (fl_X2_parent_147) rfl dX2_parent_5 hGa rfl ?_
    refine zz_astoreN_n (pc := 8) C dX2_parent_8 (Nat.le_of_ble_eq_true rfl) ?_
    refine zz_aloadN_n (pc := 9) C dX2_parent_9 rfl ?_
    refine zz_ifnonnullN (pc := 10) C dX2_parent_10 ?_
    refine zz_iconst (pc := 13) C (v := -1) (by decide) dX2_parent_13 ?_
    refine zz_goto (pc := 14) C (tgt := 21) dX2_parent_14 (by decide) ?_
    exact zzx_ret (zz_ireturn (pc := 21) C dX2_parent_21 rfl (Nat.le_of_ble_eq_true rfl) (Nat.le_of_ble_eq_true rfl) ⟨zE1_0 (fun z => z hth), by rw [hk1, hW.x.2.1], rfl⟩)
  · obtain ⟨j, hj, hj1, hj2, hj3, hj4, hj5⟩ := hW.par hth.2.2 hk1
    rw [zPar_n hk1 hj hj2 (zTA_y hj4)] at hGa
    obtain ⟨g, hGj, hPj, _⟩ := hC.at hj2 hj4
    refine zz_get (pc := 5) C in_X2_parent_X1 (ci := 1) rfl 1 (by decide) (fl_X2_parent_147) rfl dX2_parent_5 hGa rfl ?_
    refine zz_astore_n (pc := 8) C dX2_parent_8 (Nat.le_of_ble_eq_true rfl) ?_
    refine zz_aload_n (pc := 9) C dX2_parent_9 rfl ?_
    refine zz_ifnonnull (pc := 10) C (tgt := 17) dX2_parent_10 (by decide) ?_
    refine zz_aload_n (pc := 17) C dX2_parent_17 rfl ?_
    refine zz_get (pc := 18) C in_X2_parent_X1 (ci := 1) rfl 0 (by decide) (fl_X2_parent_151) rfl dX2_parent_18 hGj rfl ?_
    exact zzx_ret (zz_ireturn (pc := 21) C dX2_parent_21 rfl (Nat.le_of_ble_eq_true rfl) (Nat.le_of_ble_eq_true rfl) ⟨zE1_0 (fun z => z hth), by rw [hPj.1, hj], rfl⟩)

set_option maxHeartbeats 4000000 in
set_option maxRecDepth 100000 in
theorem c_X2_isOrphaned (l : Launch) (hl : l.stackTraces = false) (D : va_G) {B G : zG} {x tb ev : Nat} {A : Nat → Nat} {σ : zS} {q : List zEv} {h m0 : Nat} {x9 : Int32} (hC : zCl B x tb ev A σ q h m0 G) (hH : zHas σ) : zxMet D l yX2_isOrphaned wsX2_isOrphaned ({ frames := 8, cells := 1, slots := 6, locals := 132 } : Room) [.ref x, .int x9] G (fun v G9 => zE1 (x9 < 1 ∨ (40 : Int32) < x9) = 0 ∧ v = some (.int (zb (zOrph σ x9))) ∧ G9 = G) (fun E => zE1 (x9 < 1 ∨ (40 : Int32) < x9) = 1 ∧ E = "java/lang/IllegalArgumentException") := by
  refine zxMet_of (cc := cX2_isOrphaned) (maxL := 2) (ret := (some .boolean)) (by decide) rfl (Nat.le_of_ble_eq_true rfl) ?_
  intro p e s m args below meth c C hnx h8
  refine zz_iload_n (pc := 0) C dX2_isOrphaned_0 rfl ?_
  refine zzx_callS (pc := 1) C h8 (c_X2_requireNumber l hl D (v9 := x9)) gX2_isOrphaned_X2_requireNumber rfl 1 (by decide +kernel) ⟨Nat.le_of_ble_eq_true rfl, Nat.le_of_ble_eq_true rfl⟩ rfl dX2_isOrphaned_1 rfl (Nat.le_of_ble_eq_true rfl) rfl ⟨Nat.le_of_ble_eq_true rfl, Nat.le_of_ble_eq_true rfl⟩ (fun E hE => zzx_out C hnx (⟨zE1_1 hE.1, hE.2⟩) (Nat.le_of_ble_eq_true rfl) (Nat.le_of_ble_eq_true rfl)) ?_
  rintro v G9 ⟨hrr, rfl, rfl⟩
  obtain ⟨hx1, hx2, hx3⟩ := zIn40 (fun u => hrr (Or.inl u)) (fun u => hrr (Or.inr u))
  refine zz_aload_n (pc := 4) C dX2_isOrphaned_4 rfl ?_
  refine zz_callV (pc := 5) C (c_clAttG l D hC hH) gX2_isOrphaned_X2_attachedGroups rfl 0 (by decide +kernel) ⟨Nat.le_of_ble_eq_true rfl, Nat.le_of_ble_eq_true rfl⟩ hC.x (ci := 2) rfl rfl rfl dX2_isOrphaned_5 rfl (Nat.le_of_ble_eq_true rfl) rfl ⟨Nat.le_of_ble_eq_true rfl, Nat.le_of_ble_eq_true rfl⟩ ?_
  rintro v G9 ⟨w1, rfl, hw1, rfl⟩
  refine zz_iload_n (pc := 8) C dX2_isOrphaned_8 rfl ?_
  refine zz_callS (pc := 9) C (c_clCon l D (w := w1) (s9 := pn x9) (by omega) hx1) gX2_isOrphaned_X2_contains rfl 2 (by decide +kernel) ⟨Nat.le_of_ble_eq_true rfl, Nat.le_of_ble_eq_true rfl⟩ rfl dX2_isOrphaned_9 rfl (Nat.le_of_ble_eq_true rfl) rfl ⟨Nat.le_of_ble_eq_true rfl, Nat.le_of_ble_eq_true rfl⟩ ?_
  rintro v G9 ⟨rfl, rfl⟩
  refine zz_if_ne (pc := 12) C (tgt := 19) dX2_isOrphaned_12 (by decide) (fun hc12 => ?_) (fun hc12 => ?_)
  · refine zz_iconst (pc := 19) C (v := 0) (by decide) dX2_isOrphaned_19 ?_
    exact zzx_ret (zz_ireturn (pc := 20) C dX2_isOrphaned_20 rfl (Nat.le_of_ble_eq_true rfl) (Nat.le_of_ble_eq_true rfl) ⟨zE1_0 hrr, zvf (fun z => (zAtS_o hw1 (by omega)).mp (zb_ne.mp hc12) (by rw [← hx1]; exact z)), rfl⟩)
  · refine zz_iconst (pc := 15) C (v := 1) (by decide) dX2_isOrphaned_15 ?_
    refine zz_goto (pc := 16) C (tgt := 20) dX2_isOrphaned_16 (by decide) ?_
    exact zzx_ret (zz_ireturn (pc := 20) C dX2_isOrphaned_20 rfl (Nat.le_of_ble_eq_true rfl) (Nat.le_of_ble_eq_true rfl) ⟨zE1_0 hrr, zvt (by have h9 := Classical.not_not.mp (fun z => zbn hc12 ((zAtS_o hw1 (g := pn x9) (by omega)).mpr z)); rw [← hx1] at h9; exact h9), rfl⟩)
theorem fl_X2_terminalSession_22 : Cond.fieldLink RX2 22 "Signalpost" "terminalHolder" "I" ∈ wsX2_terminalSession := by decide +kernel
theorem in_X2_terminalSession_X2 : ∀ w ∈ u_ws RX2 TX2 4, w ∈ wsX2_terminalSession := by decide +kernel
set_option maxHeartbeats 4000000 in
set_option maxRecDepth 100000 in
theorem c_X2_terminalSession (l : Launch) (D : va_G) {B G : zG} {x tb ev : Nat} {A : Nat → Nat} {σ : zS} {q : List zEv} {h m0 : Nat}  (hC : zCl B x tb ev A σ q h m0 G)  : zMet D l yX2_terminalSession wsX2_terminalSession ({ frames := 0, cells := 0, slots := 0, locals := 0 } : Room) [.ref x] G (fun v G9 => v = some (.int (σ 21 0)) ∧ G9 = G) := by
  refine zMet_of (cc := cX2_terminalSession) (maxL := 1) (ret := (some .int)) (by decide) rfl (Nat.le_of_ble_eq_true rfl) ?_
  intro p e s m args below meth c C hmn
  refine zz_aload_n (pc := 0) C dX2_terminalSession_0 rfl ?_
  refine zz_get (pc := 1) C in_X2_terminalSession_X2 (ci := 2) rfl 2 (by decide) (fl_X2_terminalSession_22) rfl dX2_terminalSession_1 hC.x rfl ?_
  exact zz_ireturn (pc := 4) C dX2_terminalSession_4 rfl (Nat.le_of_ble_eq_true rfl) (Nat.le_of_ble_eq_true rfl) ⟨rfl, rfl⟩
theorem fl_X2_foreground_26 : Cond.fieldLink RX2 26 "Signalpost" "foregroundGroup" "I" ∈ wsX2_foreground := by decide +kernel
theorem in_X2_foreground_X2 : ∀ w ∈ u_ws RX2 TX2 4, w ∈ wsX2_foreground := by decide +kernel
set_option maxHeartbeats 4000000 in
set_option maxRecDepth 100000 in
theorem c_X2_foreground (l : Launch) (D : va_G) {B G : zG} {x tb ev : Nat} {A : Nat → Nat} {σ : zS} {q : List zEv} {h m0 : Nat}  (hC : zCl B x tb ev A σ q h m0 G)  : zMet D l yX2_foreground wsX2_foreground ({ frames := 0, cells := 0, slots := 0, locals := 0 } : Room) [.ref x] G (fun v G9 => v = some (.int (σ 22 0)) ∧ G9 = G) := by
  refine zMet_of (cc := cX2_foreground) (maxL := 1) (ret := (some .int)) (by decide) rfl (Nat.le_of_ble_eq_true rfl) ?_
  intro p e s m args below meth c C hmn
  refine zz_aload_n (pc := 0) C dX2_foreground_0 rfl ?_
  refine zz_get (pc := 1) C in_X2_foreground_X2 (ci := 2) rfl 3 (by decide) (fl_X2_foreground_26) rfl dX2_foreground_1 hC.x rfl ?_
  exact zz_ireturn (pc := 4) C dX2_foreground_4 rfl (Nat.le_of_ble_eq_true rfl) (Nat.le_of_ble_eq_true rfl) ⟨rfl, rfl⟩
theorem c_clProcs (l : Launch) (D : va_G) {B G : zG} {x tb ev : Nat} {A : Nat → Nat} {σ : zS} {q : List zEv} {h m0 : Nat} (hC : zCl B x tb ev A σ q h m0 G) : zMet D l yX2_processes wsX2_processes ({ frames := 0, cells := 0, slots := 0, locals := 0 } : Room) [.ref x] G (fun v G9 => v = some (.int (nI (zCnt σ 41))) ∧ G9 = G) := by
  obtain ⟨hm, ka, pa, F, fk, fp, ck, cp, hB⟩ := hC
  exact c_X2_processes l D hB
/-! calls that run events -/
abbrev zRmX (f l m t k : Nat) : Room := { frames := f, cells := k + zW m t, slots := 6 * k + 4 * zW m t, locals := l }
theorem zRx_ok {m a b T f l f' l' k : Nat} (h1 : a ≤ b) (h2 : b ≤ T) : (k + zW m a) + (zRmA f l (max m a) b).cells ≤ (zRmX f' l' m T k).cells ∧ (6 * k + 4 * zW m a) + (zRmA f l (max m a) b).slots ≤ (zRmX f' l' m T k).slots := by
  have h := zRm_ok (m := m) (f := f) (l := l) (f' := f') (l' := l') h1 h2
  have e1 : (zRmA f' l' m T).cells = zW m T := rfl
  have e2 : (zRmA f' l' m T).slots = 4 * zW m T := rfl
  have e3 : (zRmX f' l' m T k).cells = k + zW m T := rfl
  have e4 : (zRmX f' l' m T k).slots = 6 * k + 4 * zW m T := rfl
  rw [e1, e2] at h
  rw [e3, e4]
  omega
theorem zRx_eq {m a b f l k : Nat} (h1 : a ≤ b) : (k + zW m a) + (zRmA f l (max m a) b).cells ≤ k + zW m b ∧ (6 * k + 4 * zW m a) + (zRmA f l (max m a) b).slots ≤ 6 * k + 4 * zW m b := by
  have h := zRm_eq (m := m) (f := f) (l := l) h1
  omega
theorem zRx_end {m T f l k : Nat} : k + zW m T ≤ (zRmX f l m T k).cells ∧ 6 * k + 4 * zW m T ≤ (zRmX f l m T k).slots := ⟨Nat.le_refl _, Nat.le_refl _⟩
theorem zRx_0 {m T f l k a b : Nat} (h1 : a ≤ k) (h2 : b ≤ 6 * k) : a ≤ (zRmX f l m T k).cells ∧ b ≤ (zRmX f l m T k).slots := by
  have e3 : (zRmX f l m T k).cells = k + zW m T := rfl
  have e4 : (zRmX f l m T k).slots = 6 * k + 4 * zW m T := rfl
  rw [e3, e4]
  omega
theorem zRx_w {m k a b t : Nat} (h1 : a ≤ k) (h2 : b ≤ 6 * k) : a ≤ k + zW m t ∧ b ≤ 6 * k + 4 * zW m t := by omega
/-- what a call needs that runs the events of X -/
def zReady (N : Nat) (X : zS × List zEv) : Prop := zGood X.1 X.2 ∧ zRun N X.1 X.2 ∧ zCount N X.1 X.2 ≤ 16384
