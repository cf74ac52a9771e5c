theorem kl_L_setGroup_13 : Cond.classLink RL 13 "java/lang/IndexOutOfBoundsException" ∈ wsL_setGroup := by decide +kernel
theorem kl_L_setGroup_24 : Cond.classLink RL 24 "java/lang/IllegalArgumentException" ∈ wsL_setGroup := by decide +kernel
theorem kl_L_setGroup_15 : Cond.classLink RL 15 "java/lang/IllegalStateException" ∈ wsL_setGroup := by decide +kernel
set_option maxHeartbeats 4000000 in
set_option maxRecDepth 100000 in
theorem c_L_setGroup (l : Launch) (hl : l.stackTraces = false) (D : va_G) {G : zG} {x tb ev : Nat} {A : Nat → Nat} {σ : zS} {m0 : Nat} {x9 t9 g9 : Int32} {o : Nat} {w : Nat → Int64} (hC : zCl G x tb ev A σ [] 0 m0 G) (hW : zWf σ) (ho : G o = some (zOut w)) : zxMet D l yL_setGroup wsL_setGroup ({ frames := 9, cells := 5, slots := 30, locals := 158 } : Room) [.ref x, .int x9, .int t9, .int g9, .ref o] G (fun v G9 => v = some (.int (zE3 (¬ zHere σ x9 ∨ ¬ zHere σ t9) (g9 < 1 ∨ (40 : Int32) < g9) (zNot σ (pn x9) ∨ ¬ zPoss σ (pn x9) (pn t9) g9))) ∧ zWP G x tb ev o σ (zu σ 2 (pn t9) g9) m0 m0 (zE3 (¬ zHere σ x9 ∨ ¬ zHere σ t9) (g9 < 1 ∨ (40 : Int32) < g9) (zNot σ (pn x9) ∨ ¬ zPoss σ (pn x9) (pn t9) g9)) (some ((σ 2 (pn t9))).toInt64) G9) (fun _ => False) := by
  refine zxMet_ofH (cc := cL_setGroup) (maxL := 6) (ret := (some .int)) (hh := [(0, 12, 15, 13), (0, 12, 19, 24), (0, 12, 23, 15)]) (by decide) rfl (Nat.le_of_ble_eq_true rfl) ?_
  intro p e s m args below meth c C htb h8
  refine zz_aload (pc := 0) C dL_setGroup_0 rfl ?_
  refine zz_iconst (pc := 2) C (v := 0) (by decide) dL_setGroup_2 ?_
  refine zz_aload_n (pc := 3) C dL_setGroup_3 rfl ?_
  refine zz_iload_n (pc := 4) C dL_setGroup_4 rfl ?_
  refine zz_iload_n (pc := 5) C dL_setGroup_5 rfl ?_
  refine zz_iload_n (pc := 6) C dL_setGroup_6 rfl ?_
  refine zzx_callV (pc := 7) C h8 (c_X2_setGroup l hl D (B := G) (G := G) hC hW) gL_setGroup_X2_setGroup rfl 3 (by decide +kernel) ⟨Nat.le_of_ble_eq_true rfl, Nat.le_of_ble_eq_true rfl⟩ hC.x (ci := 2) rfl rfl rfl dL_setGroup_7 rfl (Nat.le_of_ble_eq_true rfl) rfl ⟨Nat.le_of_ble_eq_true rfl, Nat.le_of_ble_eq_true rfl⟩ (fun E hE => ?_) ?_
  · skip
    rcases hE with ⟨h1, rfl⟩ | ⟨h1, rfl⟩ | ⟨h1, rfl⟩
    · skip
      refine zzx_catch (pc := 7) (name := "java/lang/IndexOutOfBoundsException") C (tableOf []) (⟨0, 12, 15, 13⟩ : ExceptionTableEntry) (tableOf [(0, 12, 19, 24), (0, 12, 23, 15)]) (htb.trans rfl) ?_ rfl (by decide) (C.ts kl_L_setGroup_13) (zFace_moved (zFaces_ok _ (zIn_face (by decide))) (Vm.Alike.refl s.vm) (h8.2.2.2.1 _ (zIn_face (by decide)))) (fun qq => ?_)
      · exact fun z hz => absurd hz List.not_mem_nil
      · skip
        refine zz_astore (pc := 15) C dL_setGroup_15 (Nat.le_of_ble_eq_true rfl) ?_
        refine zz_iconst (pc := 17) C (v := 1) (by decide) dL_setGroup_17 ?_
        exact zzx_ret (zz_ireturn (pc := 18) C dL_setGroup_18 rfl (Nat.le_of_ble_eq_true rfl) (Nat.le_of_ble_eq_true rfl) ⟨by rw [h1], zWP_0 hC ho (by rw [h1]; decide)⟩)
    · skip
      refine zzx_catch (pc := 7) (name := "java/lang/IllegalArgumentException") C (tableOf [(0, 12, 15, 13)]) (⟨0, 12, 19, 24⟩ : ExceptionTableEntry) (tableOf [(0, 12, 23, 15)]) (htb.trans rfl) ?_ rfl (by decide) (C.ts kl_L_setGroup_24) (zFace_moved (zFaces_ok _ (zIn_face (by decide))) (Vm.Alike.refl s.vm) (h8.2.2.2.1 _ (zIn_face (by decide)))) (fun qq => ?_)
      · intro z hz; rcases List.mem_singleton.mp hz with rfl; exact Or.inr ⟨by decide, "java/lang/IndexOutOfBoundsException", C.ts kl_L_setGroup_13, h8.2.2.2.2.1 _ (by decide) _ (by decide) (by decide)⟩
      · skip
        refine zz_astore (pc := 19) C dL_setGroup_19 (Nat.le_of_ble_eq_true rfl) ?_
        refine zz_iconst (pc := 21) C (v := 2) (by decide) dL_setGroup_21 ?_
        exact zzx_ret (zz_ireturn (pc := 22) C dL_setGroup_22 rfl (Nat.le_of_ble_eq_true rfl) (Nat.le_of_ble_eq_true rfl) ⟨by rw [h1], zWP_0 hC ho (by rw [h1]; decide)⟩)
    · skip
      refine zzx_catch (pc := 7) (name := "java/lang/IllegalStateException") C (tableOf [(0, 12, 15, 13), (0, 12, 19, 24)]) (⟨0, 12, 23, 15⟩ : ExceptionTableEntry) (tableOf []) (htb.trans rfl) ?_ rfl (by decide) (C.ts kl_L_setGroup_15) (zFace_moved (zFaces_ok _ (zIn_face (by decide))) (Vm.Alike.refl s.vm) (h8.2.2.2.1 _ (zIn_face (by decide)))) (fun qq => ?_)
      · intro z hz; rcases List.mem_cons.mp hz with rfl | hz; exact Or.inr ⟨by decide, "java/lang/IndexOutOfBoundsException", C.ts kl_L_setGroup_13, h8.2.2.2.2.1 _ (by decide) _ (by decide) (by decide)⟩; rcases List.mem_singleton.mp hz with rfl; exact Or.inr ⟨by decide, "java/lang/IllegalArgumentException", C.ts kl_L_setGroup_24, h8.2.2.2.2.1 _ (by decide) _ (by decide) (by decide)⟩
      · skip
        refine zz_astore (pc := 23) C dL_setGroup_23 (Nat.le_of_ble_eq_true rfl) ?_
        refine zz_iconst (pc := 25) C (v := 3) (by decide) dL_setGroup_25 ?_
        exact zzx_ret (zz_ireturn (pc := 26) C dL_setGroup_26 rfl (Nat.le_of_ble_eq_true rfl) (Nat.le_of_ble_eq_true rfl) ⟨by rw [h1], zWP_0 hC ho (by rw [h1]; decide)⟩)
  rintro v G9 ⟨hth, rfl, hC1⟩
  refine zz_i2l (pc := 10) C dL_setGroup_10 ?_
  refine zz_last (pc := 11) C dL_setGroup_11 (n := 1) (hC1.fr o 3 _ ho (by decide)) (by unfold vp_in; decide) ?_
  refine zz_goto (pc := 12) C (tgt := 27) dL_setGroup_12 (by decide) ?_
  refine zz_iconst (pc := 27) C (v := 0) (by decide) dL_setGroup_27 ?_
  exact zzx_ret (zz_ireturn (pc := 28) C dL_setGroup_28 rfl (Nat.le_of_ble_eq_true rfl) (Nat.le_of_ble_eq_true rfl) ⟨by rw [hth], zWP_1 hC1 (hC1.fr o 3 _ ho (by decide)) hth rfl rfl⟩)
theorem kl_L_setReaper_13 : Cond.classLink RL 13 "java/lang/IndexOutOfBoundsException" ∈ wsL_setReaper := by decide +kernel
theorem kl_L_setReaper_15 : Cond.classLink RL 15 "java/lang/IllegalStateException" ∈ wsL_setReaper := by decide +kernel
set_option maxHeartbeats 4000000 in
set_option maxRecDepth 100000 in
theorem c_L_setReaper (l : Launch) (hl : l.stackTraces = false) (D : va_G) {G : zG} {x tb ev : Nat} {A : Nat → Nat} {σ : zS} {m0 : Nat} {x9 f9 : Int32} {o : Nat} {w : Nat → Int64} (hC : zCl G x tb ev A σ [] 0 m0 G) (hW : zWf σ) (hf9 : f9 = 0 ∨ f9 = 1) (ho : G o = some (zOut w)) : zxMet D l yL_setReaper wsL_setReaper ({ frames := 8, cells := 2, slots := 12, locals := 136 } : Room) [.ref x, .int x9, .int f9, .ref o] G (fun v G9 => v = some (.int (zE2 (¬ zHere σ x9) (zNot σ (pn x9)))) ∧ zWP G x tb ev o σ (zu σ 13 (pn x9) f9) m0 m0 (zE2 (¬ zHere σ x9) (zNot σ (pn x9))) (some (if (σ 13 (pn x9)) = 0 then (0 : Int64) else 1)) G9) (fun _ => False) := by
  refine zxMet_ofH (cc := cL_setReaper) (maxL := 5) (ret := (some .int)) (hh := [(0, 17, 20, 13), (0, 17, 24, 15)]) (by decide) rfl (Nat.le_of_ble_eq_true rfl) ?_
  intro p e s m args below meth c C htb h8
  refine zz_aload_n (pc := 0) C dL_setReaper_0 rfl ?_
  refine zz_iconst (pc := 1) C (v := 0) (by decide) dL_setReaper_1 ?_
  refine zz_aload_n (pc := 2) C dL_setReaper_2 rfl ?_
  refine zz_iload_n (pc := 3) C dL_setReaper_3 rfl ?_
  refine zz_iload_n (pc := 4) C dL_setReaper_4 rfl ?_
  refine zzx_callV (pc := 5) C h8 (c_X2_setReaper l hl D (B := G) (G := G) hC hW hf9) gL_setReaper_X2_setReaper rfl 2 (by decide +kernel) ⟨Nat.le_of_ble_eq_true rfl, Nat.le_of_ble_eq_true rfl⟩ hC.x (ci := 2) rfl rfl rfl dL_setReaper_5 rfl (Nat.le_of_ble_eq_true rfl) rfl ⟨Nat.le_of_ble_eq_true rfl, Nat.le_of_ble_eq_true rfl⟩ (fun E hE => ?_) ?_
  · skip
    rcases hE with ⟨h1, rfl⟩ | ⟨h1, rfl⟩
    · skip
      refine zzx_catch (pc := 5) (name := "java/lang/IndexOutOfBoundsException") C (tableOf []) (⟨0, 17, 20, 13⟩ : ExceptionTableEntry) (tableOf [(0, 17, 24, 15)]) (htb.trans rfl) ?_ rfl (by decide) (C.ts kl_L_setReaper_13) (zFace_moved (zFaces_ok _ (zIn_face (by decide))) (Vm.Alike.refl s.vm) (h8.2.2.2.1 _ (zIn_face (by decide)))) (fun qq => ?_)
      · exact fun z hz => absurd hz List.not_mem_nil
      · skip
        refine zz_astore (pc := 20) C dL_setReaper_20 (Nat.le_of_ble_eq_true rfl) ?_
        refine zz_iconst (pc := 22) C (v := 1) (by decide) dL_setReaper_22 ?_
        exact zzx_ret (zz_ireturn (pc := 23) C dL_setReaper_23 rfl (Nat.le_of_ble_eq_true rfl) (Nat.le_of_ble_eq_true rfl) ⟨by rw [h1], zWP_0 hC ho (by rw [h1]; decide)⟩)
    · skip
      refine zzx_catch (pc := 5) (name := "java/lang/IllegalStateException") C (tableOf [(0, 17, 20, 13)]) (⟨0, 17, 24, 15⟩ : ExceptionTableEntry) (tableOf []) (htb.trans rfl) ?_ rfl (by decide) (C.ts kl_L_setReaper_15) (zFace_moved (zFaces_ok _ (zIn_face (by decide))) (Vm.Alike.refl s.vm) (h8.2.2.2.1 _ (zIn_face (by decide)))) (fun qq => ?_)
      · intro z hz; rcases List.mem_singleton.mp hz with rfl; exact Or.inr ⟨by decide, "java/lang/IndexOutOfBoundsException", C.ts kl_L_setReaper_13, h8.2.2.2.2.1 _ (by decide) _ (by decide) (by decide)⟩
      · skip
        refine zz_astore (pc := 24) C dL_setReaper_24 (Nat.le_of_ble_eq_true rfl) ?_
        refine zz_iconst (pc := 26) C (v := 2) (by decide) dL_setReaper_26 ?_
        exact zzx_ret (zz_ireturn (pc := 27) C dL_setReaper_27 rfl (Nat.le_of_ble_eq_true rfl) (Nat.le_of_ble_eq_true rfl) ⟨by rw [h1], zWP_0 hC ho (by rw [h1]; decide)⟩)
  rintro v G9 ⟨hth, rfl, hC1⟩
  refine zz_if_eq (pc := 8) C (tgt := 15) dL_setReaper_8 (by decide) (fun hc8 => ?_) (fun hc8 => ?_)
  · refine zz_lconst (pc := 15) C (v := 0) rfl dL_setReaper_15 ?_
    refine zz_last (pc := 16) C dL_setReaper_16 (n := 1) (hC1.fr o 3 _ ho (by decide)) (by unfold vp_in; decide) ?_
    refine zz_goto (pc := 17) C (tgt := 28) dL_setReaper_17 (by decide) ?_
    refine zz_iconst (pc := 28) C (v := 0) (by decide) dL_setReaper_28 ?_
    exact zzx_ret (zz_ireturn (pc := 29) C dL_setReaper_29 rfl (Nat.le_of_ble_eq_true rfl) (Nat.le_of_ble_eq_true rfl) ⟨by rw [hth], zWP_1 hC1 (hC1.fr o 3 _ ho (by decide)) hth (congrArg some (if_pos hc8)) rfl⟩)
  · refine zz_lconst (pc := 11) C (v := 1) rfl dL_setReaper_11 ?_
    refine zz_goto (pc := 12) C (tgt := 16) dL_setReaper_12 (by decide) ?_
    refine zz_last (pc := 16) C dL_setReaper_16 (n := 1) (hC1.fr o 3 _ ho (by decide)) (by unfold vp_in; decide) ?_
    refine zz_goto (pc := 17) C (tgt := 28) dL_setReaper_17 (by decide) ?_
    refine zz_iconst (pc := 28) C (v := 0) (by decide) dL_setReaper_28 ?_
    exact zzx_ret (zz_ireturn (pc := 29) C dL_setReaper_29 rfl (Nat.le_of_ble_eq_true rfl) (Nat.le_of_ble_eq_true rfl) ⟨by rw [hth], zWP_1 hC1 (hC1.fr o 3 _ ho (by decide)) hth (congrArg some (if_neg hc8)) rfl⟩)
theorem kl_L_openTerminal_13 : Cond.classLink RL 13 "java/lang/IndexOutOfBoundsException" ∈ wsL_openTerminal := by decide +kernel
theorem kl_L_openTerminal_15 : Cond.classLink RL 15 "java/lang/IllegalStateException" ∈ wsL_openTerminal := by decide +kernel
set_option maxHeartbeats 4000000 in
set_option maxRecDepth 100000 in
theorem c_L_openTerminal (l : Launch) (hl : l.stackTraces = false) (D : va_G) {G : zG} {x tb ev : Nat} {A : Nat → Nat} {σ : zS} {m0 : Nat} {x9 : Int32} {o : Nat} {w : Nat → Int64} (hC : zCl G x tb ev A σ [] 0 m0 G)  (ho : G o = some (zOut w)) : zxMet D l yL_openTerminal wsL_openTerminal ({ frames := 8, cells := 3, slots := 18, locals := 134 } : Room) [.ref x, .int x9] G (fun v G9 => v = some (.int (zE2 (¬ zHere σ x9) (zNot σ (pn x9) ∨ σ 3 (pn x9) ≠ x9 ∨ σ 21 0 ≠ -1))) ∧ zWP G x tb ev o σ (zu (zu σ 21 0 x9) 22 0 (σ 2 (pn x9))) m0 m0 (zE2 (¬ zHere σ x9) (zNot σ (pn x9) ∨ σ 3 (pn x9) ≠ x9 ∨ σ 21 0 ≠ -1)) none G9) (fun _ => False) := by
  refine zxMet_ofH (cc := cL_openTerminal) (maxL := 3) (ret := (some .int)) (hh := [(0, 5, 8, 13), (0, 5, 11, 15)]) (by decide) rfl (Nat.le_of_ble_eq_true rfl) ?_
  intro p e s m args below meth c C htb h8
  refine zz_aload_n (pc := 0) C dL_openTerminal_0 rfl ?_
  refine zz_iload_n (pc := 1) C dL_openTerminal_1 rfl ?_
  refine zzx_callV (pc := 2) C h8 (c_X2_openTerminal l hl D (B := G) (G := G) hC ) gL_openTerminal_X2_openTerminal rfl 1 (by decide +kernel) ⟨Nat.le_of_ble_eq_true rfl, Nat.le_of_ble_eq_true rfl⟩ hC.x (ci := 2) rfl rfl rfl dL_openTerminal_2 rfl (Nat.le_of_ble_eq_true rfl) rfl ⟨Nat.le_of_ble_eq_true rfl, Nat.le_of_ble_eq_true rfl⟩ (fun E hE => ?_) ?_
  · skip
    rcases hE with ⟨h1, rfl⟩ | ⟨h1, rfl⟩
    · skip
      refine zzx_catch (pc := 2) (name := "java/lang/IndexOutOfBoundsException") C (tableOf []) (⟨0, 5, 8, 13⟩ : ExceptionTableEntry) (tableOf [(0, 5, 11, 15)]) (htb.trans rfl) ?_ rfl (by decide) (C.ts kl_L_openTerminal_13) (zFace_moved (zFaces_ok _ (zIn_face (by decide))) (Vm.Alike.refl s.vm) (h8.2.2.2.1 _ (zIn_face (by decide)))) (fun qq => ?_)
      · exact fun z hz => absurd hz List.not_mem_nil
      · skip
        refine zz_astore_n (pc := 8) C dL_openTerminal_8 (Nat.le_of_ble_eq_true rfl) ?_
        refine zz_iconst (pc := 9) C (v := 1) (by decide) dL_openTerminal_9 ?_
        exact zzx_ret (zz_ireturn (pc := 10) C dL_openTerminal_10 rfl (Nat.le_of_ble_eq_true rfl) (Nat.le_of_ble_eq_true rfl) ⟨by rw [h1], zWP_0 hC ho (by rw [h1]; decide)⟩)
    · skip
      refine zzx_catch (pc := 2) (name := "java/lang/IllegalStateException") C (tableOf [(0, 5, 8, 13)]) (⟨0, 5, 11, 15⟩ : ExceptionTableEntry) (tableOf []) (htb.trans rfl) ?_ rfl (by decide) (C.ts kl_L_openTerminal_15) (zFace_moved (zFaces_ok _ (zIn_face (by decide))) (Vm.Alike.refl s.vm) (h8.2.2.2.1 _ (zIn_face (by decide)))) (fun qq => ?_)
      · intro z hz; rcases List.mem_singleton.mp hz with rfl; exact Or.inr ⟨by decide, "java/lang/IndexOutOfBoundsException", C.ts kl_L_openTerminal_13, h8.2.2.2.2.1 _ (by decide) _ (by decide) (by decide)⟩
      · skip
        refine zz_astore_n (pc := 11) C dL_openTerminal_11 (Nat.le_of_ble_eq_true rfl) ?_
        refine zz_iconst (pc := 12) C (v := 2) (by decide) dL_openTerminal_12 ?_
        exact zzx_ret (zz_ireturn (pc := 13) C dL_openTerminal_13 rfl (Nat.le_of_ble_eq_true rfl) (Nat.le_of_ble_eq_true rfl) ⟨by rw [h1], zWP_0 hC ho (by rw [h1]; decide)⟩)
  rintro v G9 ⟨hth, rfl, hC1⟩
  refine zz_goto (pc := 5) C (tgt := 14) dL_openTerminal_5 (by decide) ?_
  refine zz_iconst (pc := 14) C (v := 0) (by decide) dL_openTerminal_14 ?_
  exact zzx_ret (zz_ireturn (pc := 15) C dL_openTerminal_15 rfl (Nat.le_of_ble_eq_true rfl) (Nat.le_of_ble_eq_true rfl) ⟨by rw [hth], zWP_1n hC1 ho hth⟩)
theorem kl_L_setForeground_13 : Cond.classLink RL 13 "java/lang/IndexOutOfBoundsException" ∈ wsL_setForeground := by decide +kernel
theorem kl_L_setForeground_24 : Cond.classLink RL 24 "java/lang/IllegalArgumentException" ∈ wsL_setForeground := by decide +kernel
theorem kl_L_setForeground_15 : Cond.classLink RL 15 "java/lang/IllegalStateException" ∈ wsL_setForeground := by decide +kernel
set_option maxHeartbeats 4000000 in
set_option maxRecDepth 100000 in
theorem c_L_setForeground (l : Launch) (hl : l.stackTraces = false) (D : va_G) {G : zG} {x tb ev : Nat} {A : Nat → Nat} {σ : zS} {m0 : Nat} {x9 g9 : Int32} {o : Nat} {w : Nat → Int64} (hC : zCl G x tb ev A σ [] 0 m0 G)  (ho : G o = some (zOut w)) : zxMet D l yL_setForeground wsL_setForeground ({ frames := 9, cells := 4, slots := 24, locals := 156 } : Room) [.ref x, .int x9, .int g9, .ref o] G (fun v G9 => v = some (.int (zE3 (¬ zHere σ x9) (g9 < 1 ∨ (40 : Int32) < g9) (zNot σ (pn x9) ∨ σ 3 (pn x9) ≠ σ 21 0 ∨ ¬ zIsIn σ g9 (σ 3 (pn x9)) 41))) ∧ zWP G x tb ev o σ (zu σ 22 0 g9) m0 m0 (zE3 (¬ zHere σ x9) (g9 < 1 ∨ (40 : Int32) < g9) (zNot σ (pn x9) ∨ σ 3 (pn x9) ≠ σ 21 0 ∨ ¬ zIsIn σ g9 (σ 3 (pn x9)) 41)) (some ((σ 22 0)).toInt64) G9) (fun _ => False) := by
  refine zxMet_ofH (cc := cL_setForeground) (maxL := 5) (ret := (some .int)) (hh := [(0, 10, 13, 13), (0, 10, 17, 24), (0, 10, 21, 15)]) (by decide) rfl (Nat.le_of_ble_eq_true rfl) ?_
  intro p e s m args below meth c C htb h8
  refine zz_aload_n (pc := 0) C dL_setForeground_0 rfl ?_
  refine zz_iconst (pc := 1) C (v := 0) (by decide) dL_setForeground_1 ?_
  refine zz_aload_n (pc := 2) C dL_setForeground_2 rfl ?_
  refine zz_iload_n (pc := 3) C dL_setForeground_3 rfl ?_
  refine zz_iload_n (pc := 4) C dL_setForeground_4 rfl ?_
  refine zzx_callV (pc := 5) C h8 (c_X2_setForeground l hl D (B := G) (G := G) hC ) gL_setForeground_X2_setForeground rfl 2 (by decide +kernel) ⟨Nat.le_of_ble_eq_true rfl, Nat.le_of_ble_eq_true rfl⟩ hC.x (ci := 2) rfl rfl rfl dL_setForeground_5 rfl (Nat.le_of_ble_eq_true rfl) rfl ⟨Nat.le_of_ble_eq_true rfl, Nat.le_of_ble_eq_true rfl⟩ (fun E hE => ?_) ?_
  · skip
    rcases hE with ⟨h1, rfl⟩ | ⟨h1, rfl⟩ | ⟨h1, rfl⟩
    · skip
      refine zzx_catch (pc := 5) (name := "java/lang/IndexOutOfBoundsException") C (tableOf []) (⟨0, 10, 13, 13⟩ : ExceptionTableEntry) (tableOf [(0, 10, 17, 24), (0, 10, 21, 15)]) (htb.trans rfl) ?_ rfl (by decide) (C.ts kl_L_setForeground_13) (zFace_moved (zFaces_ok _ (zIn_face (by decide))) (Vm.Alike.refl s.vm) (h8.2.2.2.1 _ (zIn_face (by decide)))) (fun qq => ?_)
      · exact fun z hz => absurd hz List.not_mem_nil
      · skip
        refine zz_astore (pc := 13) C dL_setForeground_13 (Nat.le_of_ble_eq_true rfl) ?_
        refine zz_iconst (pc := 15) C (v := 1) (by decide) dL_setForeground_15 ?_
        exact zzx_ret (zz_ireturn (pc := 16) C dL_setForeground_16 rfl (Nat.le_of_ble_eq_true rfl) (Nat.le_of_ble_eq_true rfl) ⟨by rw [h1], zWP_0 hC ho (by rw [h1]; decide)⟩)
    · skip
      refine zzx_catch (pc := 5) (name := "java/lang/IllegalArgumentException") C (tableOf [(0, 10, 13, 13)]) (⟨0, 10, 17, 24⟩ : ExceptionTableEntry) (tableOf [(0, 10, 21, 15)]) (htb.trans rfl) ?_ rfl (by decide) (C.ts kl_L_setForeground_24) (zFace_moved (zFaces_ok _ (zIn_face (by decide))) (Vm.Alike.refl s.vm) (h8.2.2.2.1 _ (zIn_face (by decide)))) (fun qq => ?_)
      · intro z hz; rcases List.mem_singleton.mp hz with rfl; exact Or.inr ⟨by decide, "java/lang/IndexOutOfBoundsException", C.ts kl_L_setForeground_13, h8.2.2.2.2.1 _ (by decide) _ (by decide) (by decide)⟩
      · skip
        refine zz_astore (pc := 17) C dL_setForeground_17 (Nat.le_of_ble_eq_true rfl) ?_
        refine zz_iconst (pc := 19) C (v := 2) (by decide) dL_setForeground_19 ?_
        exact zzx_ret (zz_ireturn (pc := 20) C dL_setForeground_20 rfl (Nat.le_of_ble_eq_true rfl) (Nat.le_of_ble_eq_true rfl) ⟨by rw [h1], zWP_0 hC ho (by rw [h1]; decide)⟩)
    · skip
      refine zzx_catch (pc := 5) (name := "java/lang/IllegalStateException") C (tableOf [(0, 10, 13, 13), (0, 10, 17, 24)]) (⟨0, 10, 21, 15⟩ : ExceptionTableEntry) (tableOf []) (htb.trans rfl) ?_ rfl (by decide) (C.ts kl_L_setForeground_15) (zFace_moved (zFaces_ok _ (zIn_face (by decide))) (Vm.Alike.refl s.vm) (h8.2.2.2.1 _ (zIn_face (by decide)))) (fun qq => ?_)
      · intro z hz; rcases List.mem_cons.mp hz with rfl | hz; exact Or.inr ⟨by decide, "java/lang/IndexOutOfBoundsException", C.ts kl_L_setForeground_13, h8.2.2.2.2.1 _ (by decide) _ (by decide) (by decide)⟩; rcases List.mem_singleton.mp hz with rfl; exact Or.inr ⟨by decide, "java/lang/IllegalArgumentException", C.ts kl_L_setForeground_24, h8.2.2.2.2.1 _ (by decide) _ (by decide) (by decide)⟩
      · skip
        refine zz_astore (pc := 21) C dL_setForeground_21 (Nat.le_of_ble_eq_true rfl) ?_
        refine zz_iconst (pc := 23) C (v := 3) (by decide) dL_setForeground_23 ?_
        exact zzx_ret (zz_ireturn (pc := 24) C dL_setForeground_24 rfl (Nat.le_of_ble_eq_true rfl) (Nat.le_of_ble_eq_true rfl) ⟨by rw [h1], zWP_0 hC ho (by rw [h1]; decide)⟩)
  rintro v G9 ⟨hth, rfl, hC1⟩
  refine zz_i2l (pc := 8) C dL_setForeground_8 ?_
  refine zz_last (pc := 9) C dL_setForeground_9 (n := 1) (hC1.fr o 3 _ ho (by decide)) (by unfold vp_in; decide) ?_
  refine zz_goto (pc := 10) C (tgt := 25) dL_setForeground_10 (by decide) ?_
  refine zz_iconst (pc := 25) C (v := 0) (by decide) dL_setForeground_25 ?_
  exact zzx_ret (zz_ireturn (pc := 26) C dL_setForeground_26 rfl (Nat.le_of_ble_eq_true rfl) (Nat.le_of_ble_eq_true rfl) ⟨by rw [hth], zWP_1 hC1 (hC1.fr o 3 _ ho (by decide)) hth rfl rfl⟩)
theorem kl_L_send_13 : Cond.classLink RL 13 "java/lang/IndexOutOfBoundsException" ∈ wsL_send := by decide +kernel
theorem kl_L_send_24 : Cond.classLink RL 24 "java/lang/IllegalArgumentException" ∈ wsL_send := by decide +kernel
set_option maxHeartbeats 4000000 in
set_option maxRecDepth 100000 in
theorem c_L_send (l : Launch) (hl : l.stackTraces = false) (D : va_G) {G : zG} {x tb ev : Nat} {A : Nat → Nat} {σ : zS} {m0 N : Nat} {x9 s9 : Int32} {X : zS × List zEv} {o : Nat} {w : Nat → Int64} (hC : zCl G x tb ev A σ [] 0 m0 G)  (hX : X = (σ, [(pn s9, pn x9)])) (hrun : zE2 (¬ zHere σ x9) (s9 < 0 ∨ ¬ s9 < 9) = 0 → zReady N X) (ho : G o = some (zOut w)) : zxMet D l yL_send wsL_send (zRmX 10 251 m0 (zCount N X.1 X.2) 2) [.ref x, .int x9, .int s9] G (fun v G9 => v = some (.int (zE2 (¬ zHere σ x9) (s9 < 0 ∨ ¬ s9 < 9))) ∧ zWP G x tb ev o σ (zFin N X) m0 (max m0 (zCount N X.1 X.2)) (zE2 (¬ zHere σ x9) (s9 < 0 ∨ ¬ s9 < 9)) none G9) (fun _ => False) := by
  refine zxMet_ofH (cc := cL_send) (maxL := 4) (ret := (some .int)) (hh := [(0, 6, 9, 13), (0, 6, 12, 24)]) (by decide) rfl (Nat.le_of_ble_eq_true rfl) ?_
  intro p e s m args below meth c C htb h8
  refine zz_aload_n (pc := 0) C dL_send_0 rfl ?_
  refine zz_iload_n (pc := 1) C dL_send_1 rfl ?_
  refine zz_iload_n (pc := 2) C dL_send_2 rfl ?_
  refine zzx_callV (pc := 3) C h8 (c_X2_send l hl D (B := G) (G := G) (X := X) (N := N) hC hX hrun) gL_send_X2_send rfl 2 (by decide +kernel) ⟨Nat.le_of_ble_eq_true rfl, Nat.le_of_ble_eq_true rfl⟩ hC.x (ci := 2) rfl rfl rfl dL_send_3 rfl (Nat.le_of_ble_eq_true rfl) rfl ⟨Nat.le_of_eq (Nat.zero_add _), Nat.le_of_eq (Nat.zero_add _)⟩ (fun E hE => ?_) ?_
  · skip
    rcases hE with ⟨h1, rfl⟩ | ⟨h1, rfl⟩
    · skip
      refine zzx_catch (pc := 3) (name := "java/lang/IndexOutOfBoundsException") C (tableOf []) (⟨0, 6, 9, 13⟩ : ExceptionTableEntry) (tableOf [(0, 6, 12, 24)]) (htb.trans rfl) ?_ rfl (by decide) (C.ts kl_L_send_13) (zFace_moved (zFaces_ok _ (zIn_face (by decide))) (Vm.Alike.refl s.vm) (h8.2.2.2.1 _ (zIn_face (by decide)))) (fun qq => ?_)
      · exact fun z hz => absurd hz List.not_mem_nil
      · skip
        refine zz_astore_n (pc := 9) C dL_send_9 (Nat.le_of_ble_eq_true rfl) ?_
        refine zz_iconst (pc := 10) C (v := 1) (by decide) dL_send_10 ?_
        exact zzx_ret (zz_ireturn (pc := 11) C dL_send_11 rfl (Nat.le_of_eq (Nat.zero_add _)) (Nat.le_of_eq (Nat.zero_add _)) ⟨by rw [h1], zWP_0 hC ho (by rw [h1]; decide)⟩)
    · skip
      refine zzx_catch (pc := 3) (name := "java/lang/IllegalArgumentException") C (tableOf [(0, 6, 9, 13)]) (⟨0, 6, 12, 24⟩ : ExceptionTableEntry) (tableOf []) (htb.trans rfl) ?_ rfl (by decide) (C.ts kl_L_send_24) (zFace_moved (zFaces_ok _ (zIn_face (by decide))) (Vm.Alike.refl s.vm) (h8.2.2.2.1 _ (zIn_face (by decide)))) (fun qq => ?_)
      · intro z hz; rcases List.mem_singleton.mp hz with rfl; exact Or.inr ⟨by decide, "java/lang/IndexOutOfBoundsException", C.ts kl_L_send_13, h8.2.2.2.2.1 _ (by decide) _ (by decide) (by decide)⟩
      · skip
        refine zz_astore_n (pc := 12) C dL_send_12 (Nat.le_of_ble_eq_true rfl) ?_
        refine zz_iconst (pc := 13) C (v := 2) (by decide) dL_send_13 ?_
        exact zzx_ret (zz_ireturn (pc := 14) C dL_send_14 rfl (Nat.le_of_eq (Nat.zero_add _)) (Nat.le_of_eq (Nat.zero_add _)) ⟨by rw [h1], zWP_0 hC ho (by rw [h1]; decide)⟩)
  rintro v G9 ⟨hth, rfl, hC1⟩
  refine zz_goto (pc := 6) C (tgt := 15) dL_send_6 (by decide) ?_
  refine zz_iconst (pc := 15) C (v := 0) (by decide) dL_send_15 ?_
  exact zzx_ret (zz_ireturn (pc := 16) C dL_send_16 rfl (Nat.le_of_eq (Nat.zero_add _)) (Nat.le_of_eq (Nat.zero_add _)) ⟨by rw [hth], zWP_1n hC1 ho hth⟩)
theorem kl_L_sendToGroup_24 : Cond.classLink RL 24 "java/lang/IllegalArgumentException" ∈ wsL_sendToGroup := by decide +kernel
set_option maxHeartbeats 4000000 in
set_option maxRecDepth 100000 in
theorem c_L_sendToGroup (l : Launch) (hl : l.stackTraces = false) (D : va_G) {G : zG} {x tb ev : Nat} {A : Nat → Nat} {σ : zS} {m0 N : Nat} {g9 s9 : Int32} {X : zS × List zEv} {o : Nat} {w : Nat → Int64} (hC : zCl G x tb ev A σ [] 0 m0 G)  (hX : X = (σ, zSends σ g9 (pn s9) 41)) (hrun : zE1 (g9 < 1 ∨ (40 : Int32) < g9 ∨ s9 < 0 ∨ ¬ s9 < 9) = 0 → zReady N X) (ho : G o = some (zOut w)) : zxMet D l yL_sendToGroup wsL_sendToGroup (zRmX 10 252 m0 (zCount N X.1 X.2) 2) [.ref x, .int g9, .int s9, .ref o] G (fun v G9 => v = some (.int (zE1 (g9 < 1 ∨ (40 : Int32) < g9 ∨ s9 < 0 ∨ ¬ s9 < 9))) ∧ zWP G x tb ev o σ (zFin N X) m0 (max m0 (zCount N X.1 X.2)) (zE1 (g9 < 1 ∨ (40 : Int32) < g9 ∨ s9 < 0 ∨ ¬ s9 < 9)) (some ((nI (zMemL σ g9 41).length)).toInt64) G9) (fun _ => False) := by
  refine zxMet_ofH (cc := cL_sendToGroup) (maxL := 5) (ret := (some .int)) (hh := [(0, 10, 13, 24)]) (by decide) rfl (Nat.le_of_ble_eq_true rfl) ?_
  intro p e s m args below meth c C htb h8
  refine zz_aload_n (pc := 0) C dL_sendToGroup_0 rfl ?_
  refine zz_iconst (pc := 1) C (v := 0) (by decide) dL_sendToGroup_1 ?_
  refine zz_aload_n (pc := 2) C dL_sendToGroup_2 rfl ?_
  refine zz_iload_n (pc := 3) C dL_sendToGroup_3 rfl ?_
  refine zz_iload_n (pc := 4) C dL_sendToGroup_4 rfl ?_
  refine zzx_callV (pc := 5) C h8 (c_X2_sendToGroup l hl D (B := G) (G := G) (X := X) (N := N) hC hX hrun) gL_sendToGroup_X2_sendToGroup rfl 2 (by decide +kernel) ⟨Nat.le_of_ble_eq_true rfl, Nat.le_of_ble_eq_true rfl⟩ hC.x (ci := 2) rfl rfl rfl dL_sendToGroup_5 rfl (Nat.le_of_ble_eq_true rfl) rfl ⟨Nat.le_of_eq (Nat.zero_add _), Nat.le_of_eq (Nat.zero_add _)⟩ (fun E hE => ?_) ?_
  · skip
    obtain ⟨h1, rfl⟩ := hE
    · skip
      refine zzx_catch (pc := 5) (name := "java/lang/IllegalArgumentException") C (tableOf []) (⟨0, 10, 13, 24⟩ : ExceptionTableEntry) (tableOf []) (htb.trans rfl) ?_ rfl (by decide) (C.ts kl_L_sendToGroup_24) (zFace_moved (zFaces_ok _ (zIn_face (by decide))) (Vm.Alike.refl s.vm) (h8.2.2.2.1 _ (zIn_face (by decide)))) (fun qq => ?_)
      · exact fun z hz => absurd hz List.not_mem_nil
      · skip
        refine zz_astore (pc := 13) C dL_sendToGroup_13 (Nat.le_of_ble_eq_true rfl) ?_
        refine zz_iconst (pc := 15) C (v := 1) (by decide) dL_sendToGroup_15 ?_
        exact zzx_ret (zz_ireturn (pc := 16) C dL_sendToGroup_16 rfl (Nat.le_of_eq (Nat.zero_add _)) (Nat.le_of_eq (Nat.zero_add _)) ⟨by rw [h1], zWP_0 hC ho (by rw [h1]; decide)⟩)
  rintro v G9 ⟨hth, rfl, hC1⟩
  refine zz_i2l (pc := 8) C dL_sendToGroup_8 ?_
  refine zz_last (pc := 9) C dL_sendToGroup_9 (n := 1) (hC1.fr o 3 _ ho (by decide)) (by unfold vp_in; decide) ?_
  refine zz_goto (pc := 10) C (tgt := 17) dL_sendToGroup_10 (by decide) ?_
  refine zz_iconst (pc := 17) C (v := 0) (by decide) dL_sendToGroup_17 ?_
  exact zzx_ret (zz_ireturn (pc := 18) C dL_sendToGroup_18 rfl (Nat.le_of_eq (Nat.zero_add _)) (Nat.le_of_eq (Nat.zero_add _)) ⟨by rw [hth], zWP_1 hC1 (hC1.fr o 3 _ ho (by decide)) hth rfl rfl⟩)
theorem kl_L_type_15 : Cond.classLink RL 15 "java/lang/IllegalStateException" ∈ wsL_type := by decide +kernel
set_option maxHeartbeats 4000000 in
set_option maxRecDepth 100000 in
theorem c_L_type (l : Launch) (hl : l.stackTraces = false) (D : va_G) {G : zG} {x tb ev : Nat} {A : Nat → Nat} {σ : zS} {m0 N : Nat} {f9 s9 : Int32} {X : zS × List zEv} {o : Nat} {w : Nat → Int64} (hC : zCl G x tb ev A σ [] 0 m0 G) (hsg : (f9 = 0 ∧ s9 = 1) ∨ (¬ f9 = 0 ∧ s9 = 6)) (hX : X = (σ, zSends σ (σ 22 0) (pn s9) 41)) (hrun : zE1 (σ 21 0 = -1) = 0 → zReady N X) (ho : G o = some (zOut w)) : zxMet D l yL_type wsL_type (zRmX 10 251 m0 (zCount N X.1 X.2) 1) [.ref x, .int f9, .ref o] G (fun v G9 => v = some (.int (zE1 (σ 21 0 = -1))) ∧ zWP G x tb ev o σ (zFin N X) m0 (max m0 (zCount N X.1 X.2)) (zE1 (σ 21 0 = -1)) (some ((nI (zMemL σ (σ 22 0) 41).length)).toInt64) G9) (fun _ => False) := by
  refine zxMet_ofH (cc := cL_type) (maxL := 4) (ret := (some .int)) (hh := [(0, 9, 12, 15)]) (by decide) rfl (Nat.le_of_ble_eq_true rfl) ?_
  intro p e s m args below meth c C htb h8
  refine zz_aload_n (pc := 0) C dL_type_0 rfl ?_
  refine zz_iconst (pc := 1) C (v := 0) (by decide) dL_type_1 ?_
  refine zz_aload_n (pc := 2) C dL_type_2 rfl ?_
  refine zz_iload_n (pc := 3) C dL_type_3 rfl ?_
  refine zzx_callV (pc := 4) C h8 (c_X2_type l hl D (B := G) (G := G) (X := X) (N := N) hC hsg hX hrun) gL_type_X2_type rfl 1 (by decide +kernel) ⟨Nat.le_of_ble_eq_true rfl, Nat.le_of_ble_eq_true rfl⟩ hC.x (ci := 2) rfl rfl rfl dL_type_4 rfl (Nat.le_of_ble_eq_true rfl) rfl ⟨Nat.le_of_eq (Nat.zero_add _), Nat.le_of_eq (Nat.zero_add _)⟩ (fun E hE => ?_) ?_
  · skip
    obtain ⟨h1, rfl⟩ := hE
    · skip
      refine zzx_catch (pc := 4) (name := "java/lang/IllegalStateException") C (tableOf []) (⟨0, 9, 12, 15⟩ : ExceptionTableEntry) (tableOf []) (htb.trans rfl) ?_ rfl (by decide) (C.ts kl_L_type_15) (zFace_moved (zFaces_ok _ (zIn_face (by decide))) (Vm.Alike.refl s.vm) (h8.2.2.2.1 _ (zIn_face (by decide)))) (fun qq => ?_)
      · exact fun z hz => absurd hz List.not_mem_nil
      · skip
        refine zz_astore_n (pc := 12) C dL_type_12 (Nat.le_of_ble_eq_true rfl) ?_
        refine zz_iconst (pc := 13) C (v := 1) (by decide) dL_type_13 ?_
        exact zzx_ret (zz_ireturn (pc := 14) C dL_type_14 rfl (Nat.le_of_eq (Nat.zero_add _)) (Nat.le_of_eq (Nat.zero_add _)) ⟨by rw [h1], zWP_0 hC ho (by rw [h1]; decide)⟩)
  rintro v G9 ⟨hth, rfl, hC1⟩
  refine zz_i2l (pc := 7) C dL_type_7 ?_
  refine zz_last (pc := 8) C dL_type_8 (n := 1) (hC1.fr o 3 _ ho (by decide)) (by unfold vp_in; decide) ?_
  refine zz_goto (pc := 9) C (tgt := 15) dL_type_9 (by decide) ?_
  refine zz_iconst (pc := 15) C (v := 0) (by decide) dL_type_15 ?_
  exact zzx_ret (zz_ireturn (pc := 16) C dL_type_16 rfl (Nat.le_of_eq (Nat.zero_add _)) (Nat.le_of_eq (Nat.zero_add _)) ⟨by rw [hth], zWP_1 hC1 (hC1.fr o 3 _ ho (by decide)) hth rfl rfl⟩)
theorem kl_L_hangUp_15 : Cond.classLink RL 15 "java/lang/IllegalStateException" ∈ wsL_hangUp := by decide +kernel
set_option maxHeartbeats 4000000 in
set_option maxRecDepth 100000 in
theorem c_L_hangUp (l : Launch) (hl : l.stackTraces = false) (D : va_G) {G : zG} {x tb ev : Nat} {A : Nat → Nat} {σ : zS} {m0 N : Nat}  {X : zS × List zEv} {o : Nat} {w : Nat → Int64} (hC : zCl G x tb ev A σ [] 0 m0 G) (hW : zWf σ) (hX : X = (zFreeT σ, [(0, pn (σ 21 0))])) (hrun : zE1 (σ 21 0 = -1) = 0 → zReady N X) (ho : G o = some (zOut w)) : zxMet D l yL_hangUp wsL_hangUp (zRmX 10 250 m0 (zCount N X.1 X.2) 1) [.ref x, .ref o] G (fun v G9 => v = some (.int (zE1 (σ 21 0 = -1))) ∧ zWP G x tb ev o σ (zFin N X) m0 (max m0 (zCount N X.1 X.2)) (zE1 (σ 21 0 = -1)) (some ((σ 21 0)).toInt64) G9) (fun _ => False) := by
  refine zxMet_ofH (cc := cL_hangUp) (maxL := 3) (ret := (some .int)) (hh := [(0, 8, 11, 15)]) (by decide) rfl (Nat.le_of_ble_eq_true rfl) ?_
  intro p e s m args below meth c C htb h8
  refine zz_aload_n (pc := 0) C dL_hangUp_0 rfl ?_
  refine zz_iconst (pc := 1) C (v := 0) (by decide) dL_hangUp_1 ?_
  refine zz_aload_n (pc := 2) C dL_hangUp_2 rfl ?_
  refine zzx_callV (pc := 3) C h8 (c_X2_hangUp l hl D (B := G) (G := G) (X := X) (N := N) hC hW hX hrun) gL_hangUp_X2_hangUp rfl 0 (by decide +kernel) ⟨Nat.le_of_ble_eq_true rfl, Nat.le_of_ble_eq_true rfl⟩ hC.x (ci := 2) rfl rfl rfl dL_hangUp_3 rfl (Nat.le_of_ble_eq_true rfl) rfl ⟨Nat.le_of_eq (Nat.zero_add _), Nat.le_of_eq (Nat.zero_add _)⟩ (fun E hE => ?_) ?_
  · skip
    obtain ⟨h1, rfl⟩ := hE
    · skip
      refine zzx_catch (pc := 3) (name := "java/lang/IllegalStateException") C (tableOf []) (⟨0, 8, 11, 15⟩ : ExceptionTableEntry) (tableOf []) (htb.trans rfl) ?_ rfl (by decide) (C.ts kl_L_hangUp_15) (zFace_moved (zFaces_ok _ (zIn_face (by decide))) (Vm.Alike.refl s.vm) (h8.2.2.2.1 _ (zIn_face (by decide)))) (fun qq => ?_)
      · exact fun z hz => absurd hz List.not_mem_nil
      · skip
        refine zz_astore_n (pc := 11) C dL_hangUp_11 (Nat.le_of_ble_eq_true rfl) ?_
        refine zz_iconst (pc := 12) C (v := 1) (by decide) dL_hangUp_12 ?_
        exact zzx_ret (zz_ireturn (pc := 13) C dL_hangUp_13 rfl (Nat.le_of_eq (Nat.zero_add _)) (Nat.le_of_eq (Nat.zero_add _)) ⟨by rw [h1], zWP_0 hC ho (by rw [h1]; decide)⟩)
  rintro v G9 ⟨hth, rfl, hC1⟩
  refine zz_i2l (pc := 6) C dL_hangUp_6 ?_
  refine zz_last (pc := 7) C dL_hangUp_7 (n := 1) (hC1.fr o 3 _ ho (by decide)) (by unfold vp_in; decide) ?_
  refine zz_goto (pc := 8) C (tgt := 14) dL_hangUp_8 (by decide) ?_
  refine zz_iconst (pc := 14) C (v := 0) (by decide) dL_hangUp_14 ?_
  exact zzx_ret (zz_ireturn (pc := 15) C dL_hangUp_15 rfl (Nat.le_of_eq (Nat.zero_add _)) (Nat.le_of_eq (Nat.zero_add _)) ⟨by rw [hth], zWP_1 hC1 (hC1.fr o 3 _ ho (by decide)) hth rfl rfl⟩)
