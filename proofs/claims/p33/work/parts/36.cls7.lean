abbrev zW (m t : Nat) : Nat := zK (max m t) - zK m
theorem zW_mono {m t u : Nat} (h : t ≤ u) : zW m t ≤ zW m u := by
  have h1 : zK (max m t) ≤ zK (max m u) := zK_mono (by omega)
  show zK _ - zK _ ≤ zK _ - zK _
  omega
theorem zmax {m t u : Nat} (h : t ≤ u) : max (max m t) u = max m u := by omega
theorem zW_step {m t u : Nat} (h : t ≤ u) : zW m t + (zK (max (max m t) u) - zK (max m t)) = zW m u := by
  rw [zmax h]
  have h1 : zK (max m t) ≤ zK (max m u) := zK_mono (by omega)
  have h2 : zK m ≤ zK (max m t) := zK_mono (by omega)
  show zK _ - zK _ + _ = zK _ - zK _
  omega
theorem zW_step4 {m t u : Nat} (h : t ≤ u) : 4 * zW m t + 4 * (zK (max (max m t) u) - zK (max m t)) = 4 * zW m u := by
  have := zW_step (m := m) h
  omega
theorem zCl_K {B : zG} {x tb ev : Nat} {A : Nat → Nat} {σ : zS} {q : List zEv} {h m0 : Nat} {G : zG} (hC : zCl B x tb ev A σ q h m0 G) : zW m0 (h + q.length) = 0 := by
  obtain ⟨hm, ka, pa, F, fk, fp, ck, cp, hB⟩ := hC
  have hle : h + q.length ≤ zK m0 := hB.2.2.2.1.2.2.2.2.1
  have h1 := zK_cases m0
  have h2 := zK_cases (max m0 (h + q.length))
  show zK _ - zK _ = 0
  omega
theorem fl_X2_appendForMembers_11 : Cond.fieldLink RX2 11 "Signalpost" "table" "[LSignalpost$Proc;" ∈ wsX2_appendForMembers := by decide +kernel
theorem fl_X2_appendForMembers_18 : Cond.fieldLink RX2 18 "Signalpost" "events" "LSignalpost$EventQueue;" ∈ wsX2_appendForMembers := by decide +kernel
theorem fl_X2_appendForMembers_151 : Cond.fieldLink RX2 151 "Signalpost$Proc" "pid" "I" ∈ wsX2_appendForMembers := by decide +kernel
theorem in_X2_appendForMembers_X1 : ∀ w ∈ u_ws RX1 TX1 20, w ∈ wsX2_appendForMembers := by decide +kernel
theorem in_X2_appendForMembers_X2 : ∀ w ∈ u_ws RX2 TX2 4, w ∈ wsX2_appendForMembers := by decide +kernel
set_option maxHeartbeats 4000000 in
set_option maxRecDepth 100000 in
theorem c_X2_appendForMembers (l : Launch) (D : va_G) {B G : zG} {x tb ev : Nat} {A : Nat → Nat} {σ : zS} {q : List zEv} {h m0 : Nat} {g9 : Int32} {s9 : Nat} (hC : zCl B x tb ev A σ q h m0 G) (ht : (h + (q ++ zSends σ g9 s9 (41)).length) ≤ 16384) : zMet D l yX2_appendForMembers wsX2_appendForMembers (zRmA 4 104 m0 ((h + (q ++ zSends σ g9 s9 (41)).length))) [.ref x, .int g9, .int (nI s9)] G (fun v G9 => v = some (.int (nI (zMemL σ g9 41).length)) ∧ zCl B x tb ev A σ (q ++ zSends σ g9 s9 (41)) h (max m0 (h + (q ++ zSends σ g9 s9 (41)).length)) G9) := by
  refine zMet_of (cc := cX2_appendForMembers) (maxL := 8) (ret := (some .int)) (by decide) rfl (Nat.le_of_ble_eq_true rfl) ?_
  intro p e s m args below meth c C hmn
  have hmo : ∀ i, i ≤ 41 → (h + (q ++ zSends σ g9 s9 (i)).length) ≤ (h + (q ++ zSends σ g9 s9 (41)).length) := by
    intro i hi
    have e : ∀ d, (h + (q ++ zSends σ g9 s9 (i)).length) ≤ (h + (q ++ zSends σ g9 s9 (i + d)).length) := by
      intro d
      induction d with
      | zero => exact Nat.le_refl _
      | succ d ih =>
        refine Nat.le_trans ih ?_
        simp only [List.length_append]
        rw [← Nat.add_assoc i d 1, zSends_succ, List.length_append]
        omega
    have h9 := e (41 - i)
    rwa [show i + (41 - i) = 41 by omega] at h9
  have hle : ∀ i, i ≤ 41 → (h + (q ++ zSends σ g9 s9 (i)).length) ≤ 16384 := fun i hi => Nat.le_trans (hmo i hi) ht
  have hmoC : ∀ i, i ≤ 41 → zW m0 (h + (q ++ zSends σ g9 s9 (i)).length) + 0 ≤ zW m0 (h + (q ++ zSends σ g9 s9 (41)).length) := fun i hi => zW_mono (hmo i hi)
  have hmoS : ∀ i, i ≤ 41 → 4 * zW m0 (h + (q ++ zSends σ g9 s9 (i)).length) + 0 ≤ 4 * zW m0 (h + (q ++ zSends σ g9 s9 (41)).length) := fun i hi => Nat.mul_le_mul_left 4 (zW_mono (hmo i hi))
  have loop : ∀ (n i : Nat) (G1 : zG), i + n = 41 → zCl B x tb ev A σ (q ++ zSends σ g9 s9 (i)) h (max m0 (h + (q ++ zSends σ g9 s9 (i)).length)) G1 → zV p l e (zRmA 4 104 m0 ((h + (q ++ zSends σ g9 s9 (41)).length))) s m args below meth c D (zA G s.heap.size) (zW m0 (h + (q ++ zSends σ g9 s9 (i)).length)) (4 * zW m0 (h + (q ++ zSends σ g9 s9 (i)).length)) (zZ below D G (fun v G9 => v = some (.int (nI (zMemL σ g9 41).length)) ∧ zCl B x tb ev A σ (q ++ zSends σ g9 s9 (41)) h (max m0 (h + (q ++ zSends σ g9 s9 (41)).length)) G9) args s (zRmA 4 104 m0 ((h + (q ++ zSends σ g9 s9 (41)).length)))) G1 16 [some (.ref x), some (.int g9), some (.int (nI s9)), some (.int (nI (zMemL σ g9 (i)).length)), some (.ref tb), some (.int (nI 41)), some (.int (nI (i))), none] [] := by
    intro n
    induction n with
    | zero =>
      intro i G1 hi hC
      have hi41 : i = 41 := by omega
      subst hi41
      refine zz_iload (pc := 16) C dX2_appendForMembers_16 rfl ?_
      refine zz_iload (pc := 18) C dX2_appendForMembers_18 rfl ?_
      refine zz_icmp_ge (pc := 20) C (tgt := 66) dX2_appendForMembers_20 (by decide) (fun hc20 => ?_) (fun hc20 => ?_)
      · refine zz_iload_n (pc := 66) C dX2_appendForMembers_66 rfl ?_
        exact zz_ireturn (pc := 67) C dX2_appendForMembers_67 rfl (Nat.le_refl _) (Nat.le_refl _) ⟨rfl, hC⟩
      · exact absurd z4141 hc20
    | succ n ih =>
      intro i G1 hi hC
      have hno2 : ¬ zMem σ i g9 → zV p l e (zRmA 4 104 m0 ((h + (q ++ zSends σ g9 s9 (41)).length))) s m args below meth c D (zA G s.heap.size) (zW m0 (h + (q ++ zSends σ g9 s9 (i)).length)) (4 * zW m0 (h + (q ++ zSends σ g9 s9 (i)).length)) (zZ below D G (fun v G9 => v = some (.int (nI (zMemL σ g9 41).length)) ∧ zCl B x tb ev A σ (q ++ zSends σ g9 s9 (41)) h (max m0 (h + (q ++ zSends σ g9 s9 (41)).length)) G9) args s (zRmA 4 104 m0 ((h + (q ++ zSends σ g9 s9 (41)).length)))) G1 16 [some (.ref x), some (.int g9), some (.int (nI s9)), some (.int (nI (zMemL σ g9 (i + 1)).length)), some (.ref tb), some (.int (nI 41)), some (.int (nI (i + 1))), none] [] := by
        intro hz
        have h9 := ih (i + 1) G1 (by omega) (by rw [zSends_no hz]; exact hC)
        rw [zSends_no hz] at h9
        exact h9
      refine zz_iload (pc := 16) C dX2_appendForMembers_16 rfl ?_
      refine zz_iload (pc := 18) C dX2_appendForMembers_18 rfl ?_
      refine zz_icmp_ge (pc := 20) C (tgt := 66) dX2_appendForMembers_20 (by decide) (fun hc20 => ?_) (fun hc20 => ?_)
      · exact absurd hc20 (z41i (by omega))
      · refine zz_aload (pc := 23) C dX2_appendForMembers_23 rfl ?_
        refine zz_iload (pc := 25) C dX2_appendForMembers_25 rfl ?_
        refine zz_tldC (pc := 27) C hC dX2_appendForMembers_27 (k := i) (by omega) rfl (fun hno => ?_) (fun hth => ?_)
        · skip
          refine zz_astoreN (pc := 28) C dX2_appendForMembers_28 (Nat.le_of_ble_eq_true rfl) ?_
          refine zz_aloadN (pc := 30) C dX2_appendForMembers_30 rfl ?_
          refine zz_ifnullN (pc := 32) C (tgt := 60) dX2_appendForMembers_32 (by decide) ?_
          refine zz_iinc (pc := 60) C dX2_appendForMembers_60 rfl ?_
          refine zz_goto (pc := 63) C (tgt := 16) dX2_appendForMembers_63 (by decide) ?_
          first
            | exact zV.less (L' := [some (.ref x), some (.int g9), some (.int (nI s9)), some (.int (nI (zMemL σ g9 (i + 1)).length)), some (.ref tb), some (.int (nI 41)), some (.int (nI (i + 1))), none]) ⟨rfl, rfl, rfl, zvi (by rw [zMemL_no (fun z => z.1 hno)]), rfl, rfl, zvi (z1i i), trivial⟩ (hno2 (fun z => z.1 hno))
            | exact zV.less (L' := [some (.ref x), some (.int g9), some (.int (nI s9)), some (.int (nI (zMemL σ g9 (i + 1)).length)), some (.ref tb), some (.int (nI 41)), some (.int (nI (i + 1))), none]) ⟨rfl, rfl, rfl, zvi (by rw [zMemL_no (fun z => zb_eq.mp hc41 ((zMem_f hPF hth).mpr z))]), rfl, rfl, zvi (z1i i), trivial⟩ (hno2 (fun z => zb_eq.mp hc41 ((zMem_f hPF hth).mpr z)))
            | exact zV.less (L' := [some (.ref x), some (.int g9), some (.int (nI s9)), some (.int (nI (zMemL σ g9 (i + 1)).length)), some (.ref tb), some (.int (nI 41)), some (.int (nI (i + 1))), none]) ⟨rfl, rfl, rfl, zvi (by rw [zMemL_yes ((zMem_f hPF hth).mp (zbp hc41)), List.length_append]; exact z1i _), rfl, rfl, zvi (z1i i), trivial⟩ (ih (i + 1) _ (by omega) hC3)
        · obtain ⟨f, hGa, hPF, _⟩ := hC.at (k := i) (by omega) hth
          obtain ⟨fe, hE⟩ := hC.ev
          refine zz_astore (pc := 28) C dX2_appendForMembers_28 (Nat.le_of_ble_eq_true rfl) ?_
          refine zz_aload (pc := 30) C dX2_appendForMembers_30 rfl ?_
          refine zz_ifnull (pc := 32) C dX2_appendForMembers_32 ?_
          refine zz_aload (pc := 35) C dX2_appendForMembers_35 rfl ?_
          refine zz_iload_n (pc := 37) C dX2_appendForMembers_37 rfl ?_
          refine zz_callV (pc := 38) C (c_X1_isMemberOf l D (n := g9) hGa) gX2_appendForMembers_X1_isMemberOf rfl 1 (by decide +kernel) ⟨Nat.le_of_ble_eq_true rfl, Nat.le_of_ble_eq_true rfl⟩ hGa (ci := 1) rfl rfl rfl dX2_appendForMembers_38 rfl (Nat.le_of_ble_eq_true rfl) rfl ⟨hmoC i (by omega), hmoS i (by omega)⟩ ?_
          rintro v G9 ⟨rfl, rfl⟩
          refine zz_if_eq (pc := 41) C (tgt := 60) dX2_appendForMembers_41 (by decide) (fun hc41 => ?_) (fun hc41 => ?_)
          · refine zz_iinc (pc := 60) C dX2_appendForMembers_60 rfl ?_
            refine zz_goto (pc := 63) C (tgt := 16) dX2_appendForMembers_63 (by decide) ?_
            first
              | exact zV.less (L' := [some (.ref x), some (.int g9), some (.int (nI s9)), some (.int (nI (zMemL σ g9 (i + 1)).length)), some (.ref tb), some (.int (nI 41)), some (.int (nI (i + 1))), none]) ⟨rfl, rfl, rfl, zvi (by rw [zMemL_no (fun z => z.1 hno)]), rfl, rfl, zvi (z1i i), trivial⟩ (hno2 (fun z => z.1 hno))
              | exact zV.less (L' := [some (.ref x), some (.int g9), some (.int (nI s9)), some (.int (nI (zMemL σ g9 (i + 1)).length)), some (.ref tb), some (.int (nI 41)), some (.int (nI (i + 1))), none]) ⟨rfl, rfl, rfl, zvi (by rw [zMemL_no (fun z => zb_eq.mp hc41 ((zMem_f hPF hth).mpr z))]), rfl, rfl, zvi (z1i i), trivial⟩ (hno2 (fun z => zb_eq.mp hc41 ((zMem_f hPF hth).mpr z)))
              | exact zV.less (L' := [some (.ref x), some (.int g9), some (.int (nI s9)), some (.int (nI (zMemL σ g9 (i + 1)).length)), some (.ref tb), some (.int (nI 41)), some (.int (nI (i + 1))), none]) ⟨rfl, rfl, rfl, zvi (by rw [zMemL_yes ((zMem_f hPF hth).mp (zbp hc41)), List.length_append]; exact z1i _), rfl, rfl, zvi (z1i i), trivial⟩ (ih (i + 1) _ (by omega) hC3)
          · refine zz_aload_n (pc := 44) C dX2_appendForMembers_44 rfl ?_
            refine zz_get (pc := 45) C in_X2_appendForMembers_X2 (ci := 2) rfl 1 (by decide) (fl_X2_appendForMembers_18) rfl dX2_appendForMembers_45 hC.x rfl ?_
            refine zz_iload_n (pc := 48) C dX2_appendForMembers_48 rfl ?_
            refine zz_aload (pc := 49) C dX2_appendForMembers_49 rfl ?_
            refine zz_get (pc := 51) C in_X2_appendForMembers_X1 (ci := 1) rfl 0 (by decide) (fl_X2_appendForMembers_151) rfl dX2_appendForMembers_51 hGa rfl ?_
            have hq1 : (q ++ zSends σ g9 s9 (i + 1)) = (q ++ zSends σ g9 s9 (i)) ++ [(s9, i)] := by rw [zSends_yes ((zMem_f hPF hth).mp (zbp hc41)), List.append_assoc]
            have ht1 : (h + (q ++ zSends σ g9 s9 (i + 1)).length) = (h + (q ++ zSends σ g9 s9 (i)).length) + 1 := by rw [hq1]; simp only [List.length_append, List.length_cons, List.length_nil]; omega
            refine zz_callV (pc := 54) C (c_clApp l D (e9 := (s9, i)) hC (by have := hle (i + 1) (by omega); omega) rfl hPF.1) gX2_appendForMembers_X0_append rfl 2 (by decide +kernel) ⟨Nat.le_of_ble_eq_true rfl, Nat.le_of_ble_eq_true rfl⟩ hE (ci := 0) rfl rfl rfl dX2_appendForMembers_54 rfl (Nat.le_of_ble_eq_true rfl) rfl ⟨?_, ?_⟩ ?_
            · show zW m0 (h + (q ++ zSends σ g9 s9 (i)).length) + (zK (max (max m0 (h + (q ++ zSends σ g9 s9 (i)).length)) ((h + (q ++ zSends σ g9 s9 (i)).length) + 1)) - zK (max m0 (h + (q ++ zSends σ g9 s9 (i)).length))) ≤ _
              rw [← ht1, zW_step (by omega)]
              exact zW_mono (hmo (i + 1) (by omega))
            · show 4 * zW m0 (h + (q ++ zSends σ g9 s9 (i)).length) + 4 * (zK (max (max m0 (h + (q ++ zSends σ g9 s9 (i)).length)) ((h + (q ++ zSends σ g9 s9 (i)).length) + 1)) - zK (max m0 (h + (q ++ zSends σ g9 s9 (i)).length))) ≤ _
              rw [← ht1, zW_step4 (by omega)]
              exact Nat.mul_le_mul_left 4 (zW_mono (hmo (i + 1) (by omega)))
            rintro v G9 ⟨rfl, hC3⟩
            rw [← ht1, ← hq1, zmax (by omega)] at hC3
            refine zV.widen (k := zW m0 (h + (q ++ zSends σ g9 s9 (i + 1)).length)) (n := 4 * zW m0 (h + (q ++ zSends σ g9 s9 (i + 1)).length)) ?_ ?_ ?_
            · show zW m0 (h + (q ++ zSends σ g9 s9 (i)).length) + (zK (max (max m0 (h + (q ++ zSends σ g9 s9 (i)).length)) ((h + (q ++ zSends σ g9 s9 (i)).length) + 1)) - zK (max m0 (h + (q ++ zSends σ g9 s9 (i)).length))) ≤ _
              rw [← ht1, zW_step (by omega)]; exact Nat.le_refl _
            · show 4 * zW m0 (h + (q ++ zSends σ g9 s9 (i)).length) + 4 * (zK (max (max m0 (h + (q ++ zSends σ g9 s9 (i)).length)) ((h + (q ++ zSends σ g9 s9 (i)).length) + 1)) - zK (max m0 (h + (q ++ zSends σ g9 s9 (i)).length))) ≤ _
              rw [← ht1, zW_step4 (by omega)]; exact Nat.le_refl _
            refine zz_iinc (pc := 57) C dX2_appendForMembers_57 rfl ?_
            refine zz_iinc (pc := 60) C dX2_appendForMembers_60 rfl ?_
            refine zz_goto (pc := 63) C (tgt := 16) dX2_appendForMembers_63 (by decide) ?_
            first
              | exact zV.less (L' := [some (.ref x), some (.int g9), some (.int (nI s9)), some (.int (nI (zMemL σ g9 (i + 1)).length)), some (.ref tb), some (.int (nI 41)), some (.int (nI (i + 1))), none]) ⟨rfl, rfl, rfl, zvi (by rw [zMemL_no (fun z => z.1 hno)]), rfl, rfl, zvi (z1i i), trivial⟩ (hno2 (fun z => z.1 hno))
              | exact zV.less (L' := [some (.ref x), some (.int g9), some (.int (nI s9)), some (.int (nI (zMemL σ g9 (i + 1)).length)), some (.ref tb), some (.int (nI 41)), some (.int (nI (i + 1))), none]) ⟨rfl, rfl, rfl, zvi (by rw [zMemL_no (fun z => zb_eq.mp hc41 ((zMem_f hPF hth).mpr z))]), rfl, rfl, zvi (z1i i), trivial⟩ (hno2 (fun z => zb_eq.mp hc41 ((zMem_f hPF hth).mpr z)))
              | exact zV.less (L' := [some (.ref x), some (.int g9), some (.int (nI s9)), some (.int (nI (zMemL σ g9 (i + 1)).length)), some (.ref tb), some (.int (nI 41)), some (.int (nI (i + 1))), none]) ⟨rfl, rfl, rfl, zvi (by rw [zMemL_yes ((zMem_f hPF hth).mp (zbp hc41)), List.length_append]; exact z1i _), rfl, rfl, zvi (z1i i), trivial⟩ (ih (i + 1) _ (by omega) hC3)
  refine zz_iconst (pc := 0) C (v := 0) (by decide) dX2_appendForMembers_0 ?_
  refine zz_istore_n (pc := 1) C dX2_appendForMembers_1 (Nat.le_of_ble_eq_true rfl) ?_
  refine zz_aload_n (pc := 2) C dX2_appendForMembers_2 rfl ?_
  refine zz_get (pc := 3) C in_X2_appendForMembers_X2 (ci := 2) rfl 0 (by decide) (fl_X2_appendForMembers_11) rfl dX2_appendForMembers_3 hC.x rfl ?_
  refine zz_astore (pc := 6) C dX2_appendForMembers_6 (Nat.le_of_ble_eq_true rfl) ?_
  refine zz_aload (pc := 8) C dX2_appendForMembers_8 rfl ?_
  refine zz_tlnC (pc := 10) C hC dX2_appendForMembers_10 ?_
  refine zz_istore (pc := 11) C dX2_appendForMembers_11 (Nat.le_of_ble_eq_true rfl) ?_
  refine zz_iconst (pc := 13) C (v := 0) (by decide) dX2_appendForMembers_13 ?_
  refine zz_istore (pc := 14) C dX2_appendForMembers_14 (Nat.le_of_ble_eq_true rfl) ?_
  have hC0 : zCl B x tb ev A σ (q ++ zSends σ g9 s9 (0)) h (max m0 (h + (q ++ zSends σ g9 s9 (0)).length)) G := by rw [show zSends σ g9 s9 0 = [] from rfl, List.append_nil]; exact zCl_max hC
  refine zV.widen (k := zW m0 (h + (q ++ zSends σ g9 s9 (0)).length)) (n := 4 * zW m0 (h + (q ++ zSends σ g9 s9 (0)).length)) (Nat.zero_le _) (Nat.zero_le _) ?_
  exact zV.less (L' := [some (.ref x), some (.int g9), some (.int (nI s9)), some (.int (nI (zMemL σ g9 (0)).length)), some (.ref tb), some (.int (nI 41)), some (.int (nI (0))), none]) ⟨rfl, rfl, rfl, zvi rfl, rfl, rfl, rfl, trivial⟩ (loop 41 0 G rfl hC0)
