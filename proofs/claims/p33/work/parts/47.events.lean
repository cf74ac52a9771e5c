theorem c_clAdv (l : Launch) (D : va_G) {B G : zG} {x tb ev : Nat} {A : Nat → Nat} {σ : zS} {q : List zEv} {e9 : zEv} {h m0 : Nat} (hC : zCl B x tb ev A σ (e9 :: q) h m0 G) : zMet D l yX0_advance wsX0_advance ({ frames := 0, cells := 0, slots := 0, locals := 0 } : Room) [.ref ev] G (fun v G9 => v = some (.int 1) ∧ zCl B x tb ev A σ q (h + 1) m0 G9 ∧ ∃ (ka pa : Nat) (u w : Int32), G9 ev = some (1, .inr (0, zQo ka pa u w (nI e9.1) (nI e9.2)))) := by
  obtain ⟨hm, ka, pa, F, fk, fp, ck, cp, hB⟩ := hC
  have hq := hB.2.2.2.1
  have hK := zK_in m0
  have hlen : (e9 :: q).length = q.length + 1 := rfl
  have hle : h + (e9 :: q).length ≤ zK m0 := hq.2.2.2.2.1
  refine (c_X0_advance l D hq.1 hq.2.1 hq.2.2.1 hle (by omega) (by omega)).imp ?_
  rintro v G9 ⟨rfl, rfl⟩
  have h0 := hq.2.2.2.2.2.2.2 0 e9 rfl
  rw [Nat.add_zero] at h0
  have nka : ka ≠ ev := fun z => by have := hq.2.1; rw [z, hq.1] at this; cases this
  have npa : pa ≠ ev := fun z => by have := hq.2.2.1; rw [z, hq.1] at this; cases this
  have e1 : h + (e9 :: q).length = h + 1 + q.length := by rw [hlen]; omega
  refine ⟨rfl, ⟨hm, ka, pa, F, fk, fp, fk h, fp h, ?_⟩, ka, pa, _, _, by rw [zU_self, h0.1, h0.2]⟩
  refine zCls_queue hB (fun z y hz hne _ _ => by rw [zU_ne hne]; exact hz) (by rw [zU_self, e1]) (by rw [zU_ne nka]; exact hq.2.1) (by rw [zU_ne npa]; exact hq.2.2.1) hq.2.2.2.1 (by omega) hK.1 hK.2 (fun i e hi => ?_)
  have := hq.2.2.2.2.2.2.2 (i + 1) e hi
  rw [show h + (i + 1) = h + 1 + i by omega] at this
  exact this
theorem c_clAdvE (l : Launch) (D : va_G) {B G : zG} {x tb ev : Nat} {A : Nat → Nat} {σ : zS} {h m0 : Nat} (hC : zCl B x tb ev A σ [] h m0 G) : zMet D l yX0_advance wsX0_advance ({ frames := 0, cells := 0, slots := 0, locals := 0 } : Room) [.ref ev] G (fun v G9 => v = some (.int 0) ∧ G9 = G) := by
  obtain ⟨hm, ka, pa, F, fk, fp, ck, cp, hB⟩ := hC
  have hq := hB.2.2.2.1
  have hK := zK_in m0
  have hle : h + ([] : List zEv).length ≤ zK m0 := hq.2.2.2.2.1
  have hle2 : h + 0 ≤ zK m0 := hle
  exact c_X0_advance_end l D hq.1 hq.2.1 hq.2.2.1 hle (by omega) (Nat.le_refl h) (by omega)
theorem c_clClear (l : Launch) (D : va_G) {B G : zG} {x tb ev : Nat} {A : Nat → Nat} {σ : zS} {h m0 : Nat} (hC : zCl B x tb ev A σ [] h m0 G) : zMet D l yX0_clear wsX0_clear ({ frames := 0, cells := 0, slots := 0, locals := 0 } : Room) [.ref ev] G (fun v G9 => v = none ∧ zCl B x tb ev A σ [] 0 m0 G9) := by
  obtain ⟨hm, ka, pa, F, fk, fp, ck, cp, hB⟩ := hC
  have hq := hB.2.2.2.1
  have hK := zK_in m0
  refine (c_X0_clear l D hq.1).imp ?_
  rintro v G9 ⟨rfl, rfl⟩
  have nka : ka ≠ ev := fun z => by have := hq.2.1; rw [z, hq.1] at this; cases this
  have npa : pa ≠ ev := fun z => by have := hq.2.2.1; rw [z, hq.1] at this; cases this
  refine ⟨rfl, hm, ka, pa, F, fk, fp, ck, cp, ?_⟩
  exact zCls_queue hB (fun z y hz hne _ _ => by rw [zU_ne hne]; exact hz) (by rw [zU_self]; rfl) (by rw [zU_ne nka]; exact hq.2.1) (by rw [zU_ne npa]; exact hq.2.2.1) hq.2.2.2.1 (by show 0 + 0 ≤ zK m0; omega) hK.1 hK.2 (fun i e hi => by cases hi)
theorem z65 {i : Nat} (h : i ≤ 16384) : ¬ (65536 : Int32) ≤ nI i := fun z => by
  have := (nI_leI (a := 65536) (b := i) (by decide) (by omega)).mp z
  omega
theorem zHere_nI {σ : zS} {k : Nat} (hk : 1 ≤ k ∧ k < 41) : zHere σ (nI k) ↔ σ 0 k ≠ 0 := by
  have e : pn (nI k) = k := nI_clamp (by omega)
  unfold zHere
  rw [e]
  refine ⟨fun z => z.2.2, fun z => ⟨(nI_ltI (a := 0) (b := k) (by decide) (by omega)).mpr (by omega), (nI_leI (a := k) (b := 40) (by omega) (by decide)).mpr (by omega), z⟩⟩
theorem zEvent_gone {σ : zS} {q : List zEv} {e : zEv} (h : σ 0 e.2 = 0) (he : e.1 ≤ 10) : zEvent (σ, q) e = (σ, q) := by
  by_cases h9 : e.1 = 9
  · rw [zEvent_9 h9]; exact zOver_no h
  · by_cases h10 : e.1 = 10
    · rw [zEvent_10 h10]; exact zStands_no (fun z => z.1 h)
    · rw [zEvent_s (by omega)]; exact zComes_no (Or.inl h)
theorem fl_X2_processEvents_18 : Cond.fieldLink RX2 18 "Signalpost" "events" "LSignalpost$EventQueue;" ∈ wsX2_processEvents := by decide +kernel
theorem fl_X2_processEvents_204 : Cond.fieldLink RX2 204 "Signalpost$EventQueue" "currentKind" "I" ∈ wsX2_processEvents := by decide +kernel
theorem fl_X2_processEvents_207 : Cond.fieldLink RX2 207 "Signalpost$EventQueue" "currentPid" "I" ∈ wsX2_processEvents := by decide +kernel
theorem fl_X2_processEvents_151 : Cond.fieldLink RX2 151 "Signalpost$Proc" "pid" "I" ∈ wsX2_processEvents := by decide +kernel
theorem fl_X2_processEvents_194 : Cond.fieldLink RX2 194 "Signalpost$Proc" "zombie" "Z" ∈ wsX2_processEvents := by decide +kernel
theorem in_X2_processEvents_X0 : ∀ w ∈ u_ws RX0 TX0 6, w ∈ wsX2_processEvents := by decide +kernel
theorem in_X2_processEvents_X1 : ∀ w ∈ u_ws RX1 TX1 20, w ∈ wsX2_processEvents := by decide +kernel
theorem in_X2_processEvents_X2 : ∀ w ∈ u_ws RX2 TX2 4, w ∈ wsX2_processEvents := by decide +kernel
set_option maxHeartbeats 16000000 in
set_option maxRecDepth 100000 in
theorem c_X2_processEvents (l : Launch) (D : va_G) {B G : zG} {x tb ev : Nat} {A : Nat → Nat} {σ : zS} {q : List zEv} {m0 N : Nat} (hC : zCl B x tb ev A σ q 0 m0 G) (hg : zGood σ q) (hr : zRun N σ q) (ht : zCount N σ q ≤ 16384) : zMet D l yX2_processEvents wsX2_processEvents (zRmA 8 206 m0 (zCount N σ q)) [.ref x] G (fun v G9 => v = none ∧ zCl B x tb ev A (zGo N σ q) [] 0 (max m0 (zCount N σ q)) G9) := by
  obtain ⟨T, hT⟩ : ∃ T : Nat, T = zCount N σ q := ⟨_, rfl⟩
  obtain ⟨τ9, hτ9⟩ : ∃ τ9 : zS, τ9 = zGo N σ q := ⟨_, rfl⟩
  rw [← hT] at ht ⊢
  rw [← hτ9]
  have hT16 : T ≤ 16384 := ht
  refine zMet_of (cc := cX2_processEvents) (maxL := 4) (ret := none) (by decide) rfl (Nat.le_of_ble_eq_true rfl) ?_
  intro p e s m args below meth c C hmn
  have fin : ∀ (G1 : zG), zCl B x tb ev A τ9 [] T (max m0 T) G1 → zV p l e (zRmA 8 206 m0 T) s m args below meth c D (zA G s.heap.size) (zW m0 (T)) (4 * zW m0 (T)) (zZ below D G (fun v G9 => v = none ∧ zCl B x tb ev A τ9 [] 0 (max m0 T) G9) args s (zRmA 8 206 m0 T)) G1 105 [some (.ref x), none, none, none] [] := by
    intro G1 hC
    obtain ⟨fe, hE⟩ := hC.ev
    refine zz_aload_n (pc := 105) C dX2_processEvents_105 rfl ?_
    refine zz_get (pc := 106) C in_X2_processEvents_X2 (ci := 2) rfl 1 (by decide) (fl_X2_processEvents_18) rfl dX2_processEvents_106 hC.x rfl ?_
    refine zz_callV (pc := 109) C (c_clClear l D hC) gX2_processEvents_X0_clear rfl 0 (by decide +kernel) ⟨Nat.le_of_ble_eq_true rfl, Nat.le_of_ble_eq_true rfl⟩ hE (ci := 0) rfl rfl rfl dX2_processEvents_109 rfl (Nat.le_of_ble_eq_true rfl) rfl (zRm_0 (a := T) (Nat.le_refl _)) ?_
    rintro v G9 ⟨rfl, hC⟩
    refine zV.wid0 ?_
    exact zz_return (pc := 112) C dX2_processEvents_112 (zRm_end (Nat.le_refl _)).1 (zRm_end (Nat.le_refl _)).2 ⟨rfl, hC⟩
  have emp : ∀ (i : Nat) (σ1 : zS) (G1 : zG), T = i → τ9 = σ1 → zCl B x tb ev A σ1 [] i (max m0 (i + ([] : List zEv).length)) G1 → zV p l e (zRmA 8 206 m0 T) s m args below meth c D (zA G s.heap.size) (zW m0 (i + ([] : List zEv).length)) (4 * zW m0 (i + ([] : List zEv).length)) (zZ below D G (fun v G9 => v = none ∧ zCl B x tb ev A τ9 [] 0 (max m0 T) G9) args s (zRmA 8 206 m0 T)) G1 2 [some (.ref x), some (.int (nI (i))), none, none] [] := by
    intro i σ1 G1 hTi h9i hC
    obtain ⟨fe, hE⟩ := hC.ev
    refine zz_iload_n (pc := 2) C dX2_processEvents_2 rfl ?_
    refine zz_ldc (pc := 3) C (v := 65536) (by decide +kernel) dX2_processEvents_3 ?_
    refine zz_icmp_ge (pc := 5) C (tgt := 105) dX2_processEvents_5 (by decide) (fun hc5 => ?_) (fun hc5 => ?_)
    · exact absurd hc5 (z65 (by omega))
    · refine zz_aload_n (pc := 8) C dX2_processEvents_8 rfl ?_
      refine zz_get (pc := 9) C in_X2_processEvents_X2 (ci := 2) rfl 1 (by decide) (fl_X2_processEvents_18) rfl dX2_processEvents_9 hC.x rfl ?_
      refine zz_callV (pc := 12) C (c_clAdvE l D hC) gX2_processEvents_X0_advance rfl 0 (by decide +kernel) ⟨Nat.le_of_ble_eq_true rfl, Nat.le_of_ble_eq_true rfl⟩ hE (ci := 0) rfl rfl rfl dX2_processEvents_12 rfl (Nat.le_of_ble_eq_true rfl) rfl (zRm_0 (a := i + ([] : List zEv).length) (by rw [hTi]; exact Nat.le_refl _)) ?_
      rintro v G9 ⟨rfl, rfl⟩
      refine zV.wid0 ?_
      refine zz_if_eq (pc := 15) C (tgt := 105) dX2_processEvents_15 (by decide) (fun hc15 => ?_) (fun hc15 => ?_)
      · rw [show i + ([] : List zEv).length = T from hTi.symm] at hC ⊢
        rw [← h9i, ← hTi] at hC
        exact zV.less (L' := [some (.ref x), none, none, none]) ⟨rfl, trivial⟩ (fin _ hC)
      · exact absurd rfl hc15
  have loop : ∀ (n i : Nat) (σ1 : zS) (q0 : List zEv) (G1 : zG), zGood σ1 q0 → zRun n σ1 q0 → T = i + zCount n σ1 q0 → τ9 = zGo n σ1 q0 → zCl B x tb ev A σ1 q0 i (max m0 (i + q0.length)) G1 → zV p l e (zRmA 8 206 m0 T) s m args below meth c D (zA G s.heap.size) (zW m0 (i + q0.length)) (4 * zW m0 (i + q0.length)) (zZ below D G (fun v G9 => v = none ∧ zCl B x tb ev A τ9 [] 0 (max m0 T) G9) args s (zRmA 8 206 m0 T)) G1 2 [some (.ref x), some (.int (nI (i))), none, none] [] := by
    intro n
    induction n with
    | zero =>
      intro i σ1 q0 G1 hg hr hTi h9i hC
      cases q0 with
      | nil => exact emp i σ1 G1 hTi h9i hC
      | cons e1 q1 => exact hr.elim
    | succ n ih =>
      intro i σ1 q0 G1 hg hr hTi h9i hC
      cases q0 with
      | nil => exact emp i σ1 G1 hTi h9i hC
      | cons e1 q1 =>
        have hek := hg.2 e1 List.mem_cons_self
        have hein : 1 ≤ e1.2 ∧ e1.2 < 41 := ⟨hek.1.2.1, hek.1.2.2.1⟩
        have hk10' : e1.1 ≤ 10 := hek.1.1
        have hlt9 : e1.1 ≠ 9 → e1.1 ≠ 10 → e1.1 < 9 := fun a b => by omega
        obtain ⟨Y, hY⟩ : ∃ Y : zS × List zEv, Y = zEvent (σ1, q1) e1 := ⟨_, rfl⟩
        have hgY : zGood Y.1 Y.2 := by rw [hY]; exact hg.event
        have hrY : zRun n Y.1 Y.2 := by rw [hY]; exact hr.2.2.2.2.2.2
        have hTY : T = i + 1 + zCount n Y.1 Y.2 := by
          rw [hTi, hY]
          show i + (zCount n (zEvent (σ1, q1) e1).1 (zEvent (σ1, q1) e1).2 + 1) = _
          omega
        have h9Y : τ9 = zGo n Y.1 Y.2 := by rw [h9i, hY]; rfl
        have hYl := zCount_len hgY hrY
        have hAB : i + 1 + q1.length ≤ i + 1 + Y.2.length := by
          obtain ⟨_, _, q', h9, _⟩ := zSt.event (x := (σ1, q1)) hg.1 hek
          rw [hY, h9, List.length_append]
          show i + 1 + q1.length ≤ i + 1 + (q1.length + q'.length)
          omega
        have hBT : i + 1 + Y.2.length ≤ T := by omega
        have hTB : i + 1 + Y.2.length ≤ 16384 := Nat.le_trans hBT hT16
        have hTA : i + 1 + q1.length ≤ T := Nat.le_trans hAB hBT
        have el : i + (e1 :: q1).length = i + 1 + q1.length := by rw [List.length_cons]; omega
        have hT1 : i + (e1 :: q1).length ≤ T := by rw [el]; exact hTA
        obtain ⟨fe, hE⟩ := hC.ev
        refine zz_iload_n (pc := 2) C dX2_processEvents_2 rfl ?_
        refine zz_ldc (pc := 3) C (v := 65536) (by decide +kernel) dX2_processEvents_3 ?_
        refine zz_icmp_ge (pc := 5) C (tgt := 105) dX2_processEvents_5 (by decide) (fun hc5 => ?_) (fun hc5 => ?_)
        · exact absurd hc5 (z65 (by omega))
        · refine zz_aload_n (pc := 8) C dX2_processEvents_8 rfl ?_
          refine zz_get (pc := 9) C in_X2_processEvents_X2 (ci := 2) rfl 1 (by decide) (fl_X2_processEvents_18) rfl dX2_processEvents_9 hC.x rfl ?_
          refine zz_callV (pc := 12) C (c_clAdv l D hC) gX2_processEvents_X0_advance rfl 0 (by decide +kernel) ⟨Nat.le_of_ble_eq_true rfl, Nat.le_of_ble_eq_true rfl⟩ hE (ci := 0) rfl rfl rfl dX2_processEvents_12 rfl (Nat.le_of_ble_eq_true rfl) rfl (zRm_0 (a := i + (e1 :: q1).length) hT1) ?_
          rintro v G9 ⟨rfl, hC, ka, pa, u9, w9, hEv⟩
          refine zV.wid0 ?_
          rw [el] at hC ⊢
          refine zz_if_eq (pc := 15) C (tgt := 105) dX2_processEvents_15 (by decide) (fun hc15 => ?_) (fun hc15 => ?_)
          · exact absurd hc15 (by decide)
          · refine zz_aload_n (pc := 18) C dX2_processEvents_18 rfl ?_
            refine zz_get (pc := 19) C in_X2_processEvents_X2 (ci := 2) rfl 1 (by decide) (fl_X2_processEvents_18) rfl dX2_processEvents_19 hC.x rfl ?_
            refine zz_get (pc := 22) C in_X2_processEvents_X0 (ci := 0) rfl 4 (by decide) (fl_X2_processEvents_204) rfl dX2_processEvents_22 hEv rfl ?_
            refine zz_istore_n (pc := 25) C dX2_processEvents_25 (Nat.le_of_ble_eq_true rfl) ?_
            refine zz_aload_n (pc := 26) C dX2_processEvents_26 rfl ?_
            refine zz_aload_n (pc := 27) C dX2_processEvents_27 rfl ?_
            refine zz_get (pc := 28) C in_X2_processEvents_X2 (ci := 2) rfl 1 (by decide) (fl_X2_processEvents_18) rfl dX2_processEvents_28 hC.x rfl ?_
            refine zz_get (pc := 31) C in_X2_processEvents_X0 (ci := 0) rfl 5 (by decide) (fl_X2_processEvents_207) rfl dX2_processEvents_31 hEv rfl ?_
            refine zz_callV (pc := 34) C (c_clLook l D hC (x9 := nI e1.2)) gX2_processEvents_X2_lookUp rfl 1 (by decide +kernel) ⟨Nat.le_of_ble_eq_true rfl, Nat.le_of_ble_eq_true rfl⟩ hC.x (ci := 2) rfl rfl rfl dX2_processEvents_34 rfl (Nat.le_of_ble_eq_true rfl) rfl (zRm_0 (a := i + 1 + q1.length) hTA) ?_
            rintro v G9 ⟨(⟨hno, rfl⟩ | ⟨hth, rfl⟩), rfl⟩
            · refine zV.wid0 ?_
              refine zz_astoreN_n (pc := 37) C dX2_processEvents_37 (Nat.le_of_ble_eq_true rfl) ?_
              refine zz_aloadN_n (pc := 38) C dX2_processEvents_38 rfl ?_
              refine zz_ifnullN (pc := 39) C (tgt := 56) dX2_processEvents_39 (by decide) ?_
              refine zz_aloadN_n (pc := 56) C dX2_processEvents_56 rfl ?_
              refine zz_ifnullN (pc := 57) C (tgt := 74) dX2_processEvents_57 (by decide) ?_
              refine zz_aloadN_n (pc := 74) C dX2_processEvents_74 rfl ?_
              refine zz_ifnullN (pc := 75) C (tgt := 99) dX2_processEvents_75 (by decide) ?_
              refine zz_iinc (pc := 99) C dX2_processEvents_99 rfl ?_
              refine zz_goto (pc := 102) C (tgt := 2) dX2_processEvents_102 (by decide) ?_
              have hYe : Y = (σ1, q1) := by rw [hY]; exact zEvent_gone (Classical.not_not.mp (fun z => hno ((zHere_nI hein).mpr z))) hek.1.1
              rw [show σ1 = Y.1 from by rw [hYe], show q1 = Y.2 from by rw [hYe]] at hC
              refine zV.widen (k := zW m0 (i + 1 + Y.2.length)) (n := 4 * zW m0 (i + 1 + Y.2.length)) (zW_mono hAB) (Nat.mul_le_mul_left 4 (zW_mono hAB)) ?_
              exact zV.less (L' := [some (.ref x), some (.int (nI (i + 1))), none, none]) ⟨rfl, zvi (z1i i), trivial⟩ (ih (i + 1) Y.1 Y.2 _ hgY hrY hTY h9Y hC)
            · rw [show pn (nI e1.2) = e1.2 from nI_clamp (by omega)]
              have h0e : σ1 0 e1.2 ≠ 0 := (zHere_nI hein).mp hth
              obtain ⟨f, hGa, hPF, _⟩ := hC.at (k := e1.2) hein.2 h0e
              refine zV.wid0 ?_
              refine zz_astore_n (pc := 37) C dX2_processEvents_37 (Nat.le_of_ble_eq_true rfl) ?_
              refine zz_aload_n (pc := 38) C dX2_processEvents_38 rfl ?_
              refine zz_ifnull (pc := 39) C dX2_processEvents_39 ?_
              refine zz_iload_n (pc := 42) C dX2_processEvents_42 rfl ?_
              refine zz_bipush (pc := 43) C (v := 9) (by decide) dX2_processEvents_43 ?_
              refine zz_icmp_ne (pc := 45) C (tgt := 56) dX2_processEvents_45 (by decide) (fun hc45 => ?_) (fun hc45 => ?_)
              · refine zz_aload_n (pc := 56) C dX2_processEvents_56 rfl ?_
                refine zz_ifnull (pc := 57) C dX2_processEvents_57 ?_
                refine zz_iload_n (pc := 60) C dX2_processEvents_60 rfl ?_
                refine zz_bipush (pc := 61) C (v := 10) (by decide) dX2_processEvents_61 ?_
                refine zz_icmp_ne (pc := 63) C (tgt := 74) dX2_processEvents_63 (by decide) (fun hc63 => ?_) (fun hc63 => ?_)
                · refine zz_aload_n (pc := 74) C dX2_processEvents_74 rfl ?_
                  refine zz_ifnull (pc := 75) C dX2_processEvents_75 ?_
                  refine zz_aload_n (pc := 78) C dX2_processEvents_78 rfl ?_
                  refine zz_get (pc := 79) C in_X2_processEvents_X1 (ci := 1) rfl 0 (by decide) (fl_X2_processEvents_151) rfl dX2_processEvents_79 hGa rfl ?_
                  refine zz_iconst (pc := 82) C (v := 1) (by decide) dX2_processEvents_82 ?_
                  refine zz_icmp_eq (pc := 83) C (tgt := 99) dX2_processEvents_83 (by decide) (fun hc83 => ?_) (fun hc83 => ?_)
                  · refine zz_iinc (pc := 99) C dX2_processEvents_99 rfl ?_
                    refine zz_goto (pc := 102) C (tgt := 2) dX2_processEvents_102 (by decide) ?_
                    have hYe : Y = (σ1, q1) := by rw [hY, zEvent_s (hlt9 (fun z => hc45 (by rw [z]; rfl)) (fun z => hc63 (by rw [z]; rfl)))]; exact zComes_no (Or.inr (Or.inr ((nI_eq (by omega) (by decide)).mp (show nI e1.2 = nI 1 from hPF.1.symm.trans hc83))))
                    rw [show σ1 = Y.1 from by rw [hYe], show q1 = Y.2 from by rw [hYe]] at hC
                    refine zV.widen (k := zW m0 (i + 1 + Y.2.length)) (n := 4 * zW m0 (i + 1 + Y.2.length)) (zW_mono hAB) (Nat.mul_le_mul_left 4 (zW_mono hAB)) ?_
                    exact zV.less (L' := [some (.ref x), some (.int (nI (i + 1))), none, none]) ⟨rfl, zvi (z1i i), trivial⟩ (ih (i + 1) Y.1 Y.2 _ hgY hrY hTY h9Y hC)
                  · refine zz_aload_n (pc := 86) C dX2_processEvents_86 rfl ?_
                    refine zz_get (pc := 87) C in_X2_processEvents_X1 (ci := 1) rfl 5 (by decide) (fl_X2_processEvents_194) rfl dX2_processEvents_87 hGa rfl ?_
                    refine zz_if_ne (pc := 90) C (tgt := 99) dX2_processEvents_90 (by decide) (fun hc90 => ?_) (fun hc90 => ?_)
                    · refine zz_iinc (pc := 99) C dX2_processEvents_99 rfl ?_
                      refine zz_goto (pc := 102) C (tgt := 2) dX2_processEvents_102 (by decide) ?_
                      have hYe : Y = (σ1, q1) := by rw [hY, zEvent_s (hlt9 (fun z => hc45 (by rw [z]; rfl)) (fun z => hc63 (by rw [z]; rfl)))]; exact zComes_no (Or.inr (Or.inl (fun z => hc90 (hPF.2.2.2.2.1.trans z))))
                      rw [show σ1 = Y.1 from by rw [hYe], show q1 = Y.2 from by rw [hYe]] at hC
                      refine zV.widen (k := zW m0 (i + 1 + Y.2.length)) (n := 4 * zW m0 (i + 1 + Y.2.length)) (zW_mono hAB) (Nat.mul_le_mul_left 4 (zW_mono hAB)) ?_
                      exact zV.less (L' := [some (.ref x), some (.int (nI (i + 1))), none, none]) ⟨rfl, zvi (z1i i), trivial⟩ (ih (i + 1) Y.1 Y.2 _ hgY hrY hTY h9Y hC)
                    · refine zz_aload_n (pc := 93) C dX2_processEvents_93 rfl ?_
                      refine zz_aload_n (pc := 94) C dX2_processEvents_94 rfl ?_
                      refine zz_iload_n (pc := 95) C dX2_processEvents_95 rfl ?_
                      have hk8 : e1.1 < 9 := hlt9 (fun z => hc45 (by rw [z]; rfl)) (fun z => hc63 (by rw [z]; rfl))
                      refine zz_callV (pc := 96) C (c_X2_takeSignal l D (p9 := e1.2) (s9 := e1.1) (q2 := Y.2) hC hg.1 h0e (fun z => hc83 (hPF.1.trans (by rw [z]; rfl))) (hPF.2.2.2.2.1.symm.trans (Classical.not_not.mp hc90)) hk8 (by rw [hY, zEvent_s hk8]) hTB) gX2_processEvents_X2_takeSignal rfl 2 (by decide +kernel) ⟨Nat.le_of_ble_eq_true rfl, Nat.le_of_ble_eq_true rfl⟩ hC.x (ci := 2) rfl rfl rfl dX2_processEvents_96 rfl (Nat.le_of_ble_eq_true rfl) rfl (zRm_ok (a := i + 1 + q1.length) (b := i + 1 + Y.2.length) hAB hBT) ?_
                      rintro v G9 ⟨rfl, hC⟩
                      rw [zmax hAB] at hC
                      refine zV.widen (k := zW m0 (i + 1 + Y.2.length)) (n := 4 * zW m0 (i + 1 + Y.2.length)) (zRm_eq hAB).1 (zRm_eq hAB).2 ?_
                      rw [show (zComes (σ1, q1) e1.2 e1.1).1 = Y.1 from by rw [hY, zEvent_s hk8]] at hC
                      refine zz_iinc (pc := 99) C dX2_processEvents_99 rfl ?_
                      refine zz_goto (pc := 102) C (tgt := 2) dX2_processEvents_102 (by decide) ?_
                      exact zV.less (L' := [some (.ref x), some (.int (nI (i + 1))), none, none]) ⟨rfl, zvi (z1i i), trivial⟩ (ih (i + 1) Y.1 Y.2 _ hgY hrY hTY h9Y hC)
                · refine zz_aload_n (pc := 66) C dX2_processEvents_66 rfl ?_
                  refine zz_aload_n (pc := 67) C dX2_processEvents_67 rfl ?_
                  have hk10 : e1.1 = 10 := (nI_eq (by omega) (by decide)).mp (show nI e1.1 = nI 10 from Classical.not_not.mp hc63)
                  refine zz_callV (pc := 68) C (c_X2_noticeStop l D (p9 := e1.2) (Y := Y) hC hg.1 h0e (hek.1.2.2.2 (by omega)) (by rw [hY, zEvent_10 hk10]) hTB) gX2_processEvents_X2_noticeStop rfl 1 (by decide +kernel) ⟨Nat.le_of_ble_eq_true rfl, Nat.le_of_ble_eq_true rfl⟩ hC.x (ci := 2) rfl rfl rfl dX2_processEvents_68 rfl (Nat.le_of_ble_eq_true rfl) rfl (zRm_ok (a := i + 1 + q1.length) (b := i + 1 + Y.2.length) hAB hBT) ?_
                  rintro v G9 ⟨rfl, hC⟩
                  rw [zmax hAB] at hC
                  refine zV.widen (k := zW m0 (i + 1 + Y.2.length)) (n := 4 * zW m0 (i + 1 + Y.2.length)) (zRm_eq hAB).1 (zRm_eq hAB).2 ?_
                  refine zz_goto (pc := 71) C (tgt := 99) dX2_processEvents_71 (by decide) ?_
                  refine zz_iinc (pc := 99) C dX2_processEvents_99 rfl ?_
                  refine zz_goto (pc := 102) C (tgt := 2) dX2_processEvents_102 (by decide) ?_
                  exact zV.less (L' := [some (.ref x), some (.int (nI (i + 1))), none, none]) ⟨rfl, zvi (z1i i), trivial⟩ (ih (i + 1) Y.1 Y.2 _ hgY hrY hTY h9Y hC)
              · refine zz_aload_n (pc := 48) C dX2_processEvents_48 rfl ?_
                refine zz_aload_n (pc := 49) C dX2_processEvents_49 rfl ?_
                have hk9 : e1.1 = 9 := (nI_eq (by omega) (by decide)).mp (show nI e1.1 = nI 9 from Classical.not_not.mp hc45)
                refine zz_callV (pc := 50) C (c_X2_noticeEnd l D (p9 := e1.2) (Y := Y) hC hg.1 h0e (hek.2 hk9 h0e) (by rw [hY, zEvent_9 hk9]) hTB) gX2_processEvents_X2_noticeEnd rfl 1 (by decide +kernel) ⟨Nat.le_of_ble_eq_true rfl, Nat.le_of_ble_eq_true rfl⟩ hC.x (ci := 2) rfl rfl rfl dX2_processEvents_50 rfl (Nat.le_of_ble_eq_true rfl) rfl (zRm_ok (a := i + 1 + q1.length) (b := i + 1 + Y.2.length) hAB hBT) ?_
                rintro v G9 ⟨rfl, hC⟩
                rw [zmax hAB] at hC
                refine zV.widen (k := zW m0 (i + 1 + Y.2.length)) (n := 4 * zW m0 (i + 1 + Y.2.length)) (zRm_eq hAB).1 (zRm_eq hAB).2 ?_
                refine zz_goto (pc := 53) C (tgt := 99) dX2_processEvents_53 (by decide) ?_
                refine zz_iinc (pc := 99) C dX2_processEvents_99 rfl ?_
                refine zz_goto (pc := 102) C (tgt := 2) dX2_processEvents_102 (by decide) ?_
                exact zV.less (L' := [some (.ref x), some (.int (nI (i + 1))), none, none]) ⟨rfl, zvi (z1i i), trivial⟩ (ih (i + 1) Y.1 Y.2 _ hgY hrY hTY h9Y hC)
  refine zz_iconst (pc := 0) C (v := 0) (by decide) dX2_processEvents_0 ?_
  refine zz_istore_n (pc := 1) C dX2_processEvents_1 (Nat.le_of_ble_eq_true rfl) ?_
  have hC0 := zCl_max hC
  refine zV.widen (k := zW m0 (0 + q.length)) (n := 4 * zW m0 (0 + q.length)) (Nat.zero_le _) (Nat.zero_le _) ?_
  exact zV.less (L' := [some (.ref x), some (.int (nI (0))), none, none]) ⟨rfl, rfl, trivial⟩ (loop N 0 σ q G hg hr (by rw [hT]; omega) hτ9 hC0)
