theorem kl_L_exit_13 : Cond.classLink RL 13 "java/lang/IndexOutOfBoundsException" ∈ wsL_exit := by decide +kernel
theorem kl_L_exit_24 : Cond.classLink RL 24 "java/lang/IllegalArgumentException" ∈ wsL_exit := by decide +kernel
theorem kl_L_exit_15 : Cond.classLink RL 15 "java/lang/IllegalStateException" ∈ wsL_exit := by decide +kernel
set_option maxHeartbeats 4000000 in
set_option maxRecDepth 100000 in
theorem c_L_exit (l : Launch) (hl : l.stackTraces = false) (D : va_G) {G : zG} {x tb ev : Nat} {A : Nat → Nat} {σ : zS} {m0 N : Nat} {x9 c9 : Int32} {X : zS × List zEv} {o : Nat} {w : Nat → Int64} (hC : zCl G x tb ev A σ [] 0 m0 G) (hW : zWf σ) (hX : X = zTerm (σ, []) (pn x9) 0 c9) (hrun : zE3 (¬ zHere σ x9) (c9 < 0 ∨ (255 : Int32) < c9) (zNot σ (pn x9)) = 0 → zReady N X) (ho : G o = some (zOut w)) : zxMet D l yL_exit wsL_exit (zRmX 10 252 m0 (zCount N X.1 X.2) 3) [.ref x, .int x9, .int c9] G (fun v G9 => v = some (.int (zE3 (¬ zHere σ x9) (c9 < 0 ∨ (255 : Int32) < c9) (zNot σ (pn x9)))) ∧ zWP G x tb ev o σ (zFin N X) m0 (max m0 (zCount N X.1 X.2)) (zE3 (¬ zHere σ x9) (c9 < 0 ∨ (255 : Int32) < c9) (zNot σ (pn x9))) none G9) (fun _ => False) := by
  refine zxMet_ofH (cc := cL_exit) (maxL := 4) (ret := (some .int)) (hh := [(0, 6, 9, 13), (0, 6, 12, 24), (0, 6, 15, 15)]) (by decide) rfl (Nat.le_of_ble_eq_true rfl) ?_
  intro p e s m args below meth c C htb h8
  refine zz_aload_n (pc := 0) C dL_exit_0 rfl ?_
  refine zz_iload_n (pc := 1) C dL_exit_1 rfl ?_
  refine zz_iload_n (pc := 2) C dL_exit_2 rfl ?_
  refine zzx_callV (pc := 3) C h8 (c_X2_exit l hl D (B := G) (G := G) (X := X) (N := N) hC hW hX hrun) gL_exit_X2_exit rfl 2 (by decide +kernel) ⟨Nat.le_of_ble_eq_true rfl, Nat.le_of_ble_eq_true rfl⟩ hC.x (ci := 2) rfl rfl rfl dL_exit_3 rfl (Nat.le_of_ble_eq_true rfl) rfl ⟨Nat.le_of_eq (Nat.zero_add _), Nat.le_of_eq (Nat.zero_add _)⟩ (fun E hE => ?_) ?_
  · skip
    rcases hE with ⟨h1, rfl⟩ | ⟨h1, rfl⟩ | ⟨h1, rfl⟩
    · skip
      refine zzx_catch (pc := 3) (name := "java/lang/IndexOutOfBoundsException") C (tableOf []) (⟨0, 6, 9, 13⟩ : ExceptionTableEntry) (tableOf [(0, 6, 12, 24), (0, 6, 15, 15)]) (htb.trans rfl) ?_ rfl (by decide) (C.ts kl_L_exit_13) (zFace_moved (zFaces_ok _ (zIn_face (by decide))) (Vm.Alike.refl s.vm) (h8.2.2.2.1 _ (zIn_face (by decide)))) (fun qq => ?_)
      · exact fun z hz => absurd hz List.not_mem_nil
      · skip
        refine zz_astore_n (pc := 9) C dL_exit_9 (Nat.le_of_ble_eq_true rfl) ?_
        refine zz_iconst (pc := 10) C (v := 1) (by decide) dL_exit_10 ?_
        exact zzx_ret (zz_ireturn (pc := 11) C dL_exit_11 rfl (Nat.le_of_eq (Nat.zero_add _)) (Nat.le_of_eq (Nat.zero_add _)) ⟨by rw [h1], zWP_0 hC ho (by rw [h1]; decide)⟩)
    · skip
      refine zzx_catch (pc := 3) (name := "java/lang/IllegalArgumentException") C (tableOf [(0, 6, 9, 13)]) (⟨0, 6, 12, 24⟩ : ExceptionTableEntry) (tableOf [(0, 6, 15, 15)]) (htb.trans rfl) ?_ rfl (by decide) (C.ts kl_L_exit_24) (zFace_moved (zFaces_ok _ (zIn_face (by decide))) (Vm.Alike.refl s.vm) (h8.2.2.2.1 _ (zIn_face (by decide)))) (fun qq => ?_)
      · intro z hz; rcases List.mem_singleton.mp hz with rfl; exact Or.inr ⟨by decide, "java/lang/IndexOutOfBoundsException", C.ts kl_L_exit_13, h8.2.2.2.2.1 _ (by decide) _ (by decide) (by decide)⟩
      · skip
        refine zz_astore_n (pc := 12) C dL_exit_12 (Nat.le_of_ble_eq_true rfl) ?_
        refine zz_iconst (pc := 13) C (v := 2) (by decide) dL_exit_13 ?_
        exact zzx_ret (zz_ireturn (pc := 14) C dL_exit_14 rfl (Nat.le_of_eq (Nat.zero_add _)) (Nat.le_of_eq (Nat.zero_add _)) ⟨by rw [h1], zWP_0 hC ho (by rw [h1]; decide)⟩)
    · skip
      refine zzx_catch (pc := 3) (name := "java/lang/IllegalStateException") C (tableOf [(0, 6, 9, 13), (0, 6, 12, 24)]) (⟨0, 6, 15, 15⟩ : ExceptionTableEntry) (tableOf []) (htb.trans rfl) ?_ rfl (by decide) (C.ts kl_L_exit_15) (zFace_moved (zFaces_ok _ (zIn_face (by decide))) (Vm.Alike.refl s.vm) (h8.2.2.2.1 _ (zIn_face (by decide)))) (fun qq => ?_)
      · intro z hz; rcases List.mem_cons.mp hz with rfl | hz; exact Or.inr ⟨by decide, "java/lang/IndexOutOfBoundsException", C.ts kl_L_exit_13, h8.2.2.2.2.1 _ (by decide) _ (by decide) (by decide)⟩; rcases List.mem_singleton.mp hz with rfl; exact Or.inr ⟨by decide, "java/lang/IllegalArgumentException", C.ts kl_L_exit_24, h8.2.2.2.2.1 _ (by decide) _ (by decide) (by decide)⟩
      · skip
        refine zz_astore_n (pc := 15) C dL_exit_15 (Nat.le_of_ble_eq_true rfl) ?_
        refine zz_iconst (pc := 16) C (v := 3) (by decide) dL_exit_16 ?_
        exact zzx_ret (zz_ireturn (pc := 17) C dL_exit_17 rfl (Nat.le_of_eq (Nat.zero_add _)) (Nat.le_of_eq (Nat.zero_add _)) ⟨by rw [h1], zWP_0 hC ho (by rw [h1]; decide)⟩)
  rintro v G9 ⟨hth, rfl, hC1⟩
  refine zz_goto (pc := 6) C (tgt := 18) dL_exit_6 (by decide) ?_
  refine zz_iconst (pc := 18) C (v := 0) (by decide) dL_exit_18 ?_
  exact zzx_ret (zz_ireturn (pc := 19) C dL_exit_19 rfl (Nat.le_of_eq (Nat.zero_add _)) (Nat.le_of_eq (Nat.zero_add _)) ⟨by rw [hth], zWP_1n hC1 ho hth⟩)
theorem kl_L_waitAny_13 : Cond.classLink RL 13 "java/lang/IndexOutOfBoundsException" ∈ wsL_waitAny := by decide +kernel
theorem kl_L_waitAny_15 : Cond.classLink RL 15 "java/lang/IllegalStateException" ∈ wsL_waitAny := by decide +kernel
set_option maxHeartbeats 4000000 in
set_option maxRecDepth 100000 in
theorem c_L_waitAny (l : Launch) (hl : l.stackTraces = false) (D : va_G) {G : zG} {x tb ev : Nat} {A : Nat → Nat} {σ : zS} {m0 : Nat} {x9 f9 : Int32} {o : Nat} {w : Nat → Int64} (hC : zCl G x tb ev A σ [] 0 m0 G) (hW : zWf σ) (hf9 : f9 = 0 ∨ f9 = 1) (ho : G o = some (zOut w)) : zxMet D l yL_waitAny wsL_waitAny ({ frames := 8, cells := 2, slots := 12, locals := 135 } : Room) [.ref x, .int x9, .int f9, .ref o] G (fun v G9 => v = some (.int (zE2 (¬ zHere σ x9) (zNot σ (pn x9)))) ∧ zWP G x tb ev o σ (zCheck (zWset σ (pn x9) (-1) f9) (pn x9)) m0 m0 (zE2 (¬ zHere σ x9) (zNot σ (pn x9))) (some (if (zb ((zCheck (zWset σ (pn x9) (-1) f9) (pn x9)) 6 (pn x9) = 0)) = 0 then (0 : Int64) else 1)) G9) (fun _ => False) := by
  refine zxMet_ofH (cc := cL_waitAny) (maxL := 5) (ret := (some .int)) (hh := [(0, 17, 20, 13), (0, 17, 24, 15)]) (by decide) rfl (Nat.le_of_ble_eq_true rfl) ?_
  intro p e s m args below meth c C htb h8
  refine zz_aload_n (pc := 0) C dL_waitAny_0 rfl ?_
  refine zz_iconst (pc := 1) C (v := 0) (by decide) dL_waitAny_1 ?_
  refine zz_aload_n (pc := 2) C dL_waitAny_2 rfl ?_
  refine zz_iload_n (pc := 3) C dL_waitAny_3 rfl ?_
  refine zz_iload_n (pc := 4) C dL_waitAny_4 rfl ?_
  refine zzx_callV (pc := 5) C h8 (c_X2_waitAny l hl D (B := G) (G := G) hC hW hf9) gL_waitAny_X2_waitAny rfl 2 (by decide +kernel) ⟨Nat.le_of_ble_eq_true rfl, Nat.le_of_ble_eq_true rfl⟩ hC.x (ci := 2) rfl rfl rfl dL_waitAny_5 rfl (Nat.le_of_ble_eq_true rfl) rfl ⟨Nat.le_of_ble_eq_true rfl, Nat.le_of_ble_eq_true rfl⟩ (fun E hE => ?_) ?_
  · skip
    rcases hE with ⟨h1, rfl⟩ | ⟨h1, rfl⟩
    · skip
      refine zzx_catch (pc := 5) (name := "java/lang/IndexOutOfBoundsException") C (tableOf []) (⟨0, 17, 20, 13⟩ : ExceptionTableEntry) (tableOf [(0, 17, 24, 15)]) (htb.trans rfl) ?_ rfl (by decide) (C.ts kl_L_waitAny_13) (zFace_moved (zFaces_ok _ (zIn_face (by decide))) (Vm.Alike.refl s.vm) (h8.2.2.2.1 _ (zIn_face (by decide)))) (fun qq => ?_)
      · exact fun z hz => absurd hz List.not_mem_nil
      · skip
        refine zz_astore (pc := 20) C dL_waitAny_20 (Nat.le_of_ble_eq_true rfl) ?_
        refine zz_iconst (pc := 22) C (v := 1) (by decide) dL_waitAny_22 ?_
        exact zzx_ret (zz_ireturn (pc := 23) C dL_waitAny_23 rfl (Nat.le_of_ble_eq_true rfl) (Nat.le_of_ble_eq_true rfl) ⟨by rw [h1], zWP_0 hC ho (by rw [h1]; decide)⟩)
    · skip
      refine zzx_catch (pc := 5) (name := "java/lang/IllegalStateException") C (tableOf [(0, 17, 20, 13)]) (⟨0, 17, 24, 15⟩ : ExceptionTableEntry) (tableOf []) (htb.trans rfl) ?_ rfl (by decide) (C.ts kl_L_waitAny_15) (zFace_moved (zFaces_ok _ (zIn_face (by decide))) (Vm.Alike.refl s.vm) (h8.2.2.2.1 _ (zIn_face (by decide)))) (fun qq => ?_)
      · intro z hz; rcases List.mem_singleton.mp hz with rfl; exact Or.inr ⟨by decide, "java/lang/IndexOutOfBoundsException", C.ts kl_L_waitAny_13, h8.2.2.2.2.1 _ (by decide) _ (by decide) (by decide)⟩
      · skip
        refine zz_astore (pc := 24) C dL_waitAny_24 (Nat.le_of_ble_eq_true rfl) ?_
        refine zz_iconst (pc := 26) C (v := 2) (by decide) dL_waitAny_26 ?_
        exact zzx_ret (zz_ireturn (pc := 27) C dL_waitAny_27 rfl (Nat.le_of_ble_eq_true rfl) (Nat.le_of_ble_eq_true rfl) ⟨by rw [h1], zWP_0 hC ho (by rw [h1]; decide)⟩)
  rintro v G9 ⟨hth, rfl, hC1⟩
  refine zz_if_eq (pc := 8) C (tgt := 15) dL_waitAny_8 (by decide) (fun hc8 => ?_) (fun hc8 => ?_)
  · refine zz_lconst (pc := 15) C (v := 0) rfl dL_waitAny_15 ?_
    refine zz_last (pc := 16) C dL_waitAny_16 (n := 1) (hC1.fr o 3 _ ho (by decide)) (by unfold vp_in; decide) ?_
    refine zz_goto (pc := 17) C (tgt := 28) dL_waitAny_17 (by decide) ?_
    refine zz_iconst (pc := 28) C (v := 0) (by decide) dL_waitAny_28 ?_
    exact zzx_ret (zz_ireturn (pc := 29) C dL_waitAny_29 rfl (Nat.le_of_ble_eq_true rfl) (Nat.le_of_ble_eq_true rfl) ⟨by rw [hth], zWP_1 hC1 (hC1.fr o 3 _ ho (by decide)) hth (congrArg some (if_pos hc8)) rfl⟩)
  · refine zz_lconst (pc := 11) C (v := 1) rfl dL_waitAny_11 ?_
    refine zz_goto (pc := 12) C (tgt := 16) dL_waitAny_12 (by decide) ?_
    refine zz_last (pc := 16) C dL_waitAny_16 (n := 1) (hC1.fr o 3 _ ho (by decide)) (by unfold vp_in; decide) ?_
    refine zz_goto (pc := 17) C (tgt := 28) dL_waitAny_17 (by decide) ?_
    refine zz_iconst (pc := 28) C (v := 0) (by decide) dL_waitAny_28 ?_
    exact zzx_ret (zz_ireturn (pc := 29) C dL_waitAny_29 rfl (Nat.le_of_ble_eq_true rfl) (Nat.le_of_ble_eq_true rfl) ⟨by rw [hth], zWP_1 hC1 (hC1.fr o 3 _ ho (by decide)) hth (congrArg some (if_neg hc8)) rfl⟩)
theorem kl_L_waitFor_13 : Cond.classLink RL 13 "java/lang/IndexOutOfBoundsException" ∈ wsL_waitFor := by decide +kernel
theorem kl_L_waitFor_24 : Cond.classLink RL 24 "java/lang/IllegalArgumentException" ∈ wsL_waitFor := by decide +kernel
theorem kl_L_waitFor_15 : Cond.classLink RL 15 "java/lang/IllegalStateException" ∈ wsL_waitFor := by decide +kernel
set_option maxHeartbeats 4000000 in
set_option maxRecDepth 100000 in
theorem c_L_waitFor (l : Launch) (hl : l.stackTraces = false) (D : va_G) {G : zG} {x tb ev : Nat} {A : Nat → Nat} {σ : zS} {m0 : Nat} {x9 c9 f9 : Int32} {o : Nat} {w : Nat → Int64} (hC : zCl G x tb ev A σ [] 0 m0 G) (hW : zWf σ) (hf9 : f9 = 0 ∨ f9 = 1) (ho : G o = some (zOut w)) : zxMet D l yL_waitFor wsL_waitFor ({ frames := 9, cells := 3, slots := 18, locals := 156 } : Room) [.ref x, .int x9, .int c9, .int f9, .ref o] G (fun v G9 => v = some (.int (zE3 (¬ zHere σ x9) (c9 < 1 ∨ (40 : Int32) < c9) (zNot σ (pn x9)))) ∧ zWP G x tb ev o σ (zCheck (zWset σ (pn x9) c9 f9) (pn x9)) m0 m0 (zE3 (¬ zHere σ x9) (c9 < 1 ∨ (40 : Int32) < c9) (zNot σ (pn x9))) (some (if (zb ((zCheck (zWset σ (pn x9) c9 f9) (pn x9)) 6 (pn x9) = 0)) = 0 then (0 : Int64) else 1)) G9) (fun _ => False) := by
  refine zxMet_ofH (cc := cL_waitFor) (maxL := 6) (ret := (some .int)) (hh := [(0, 19, 22, 13), (0, 19, 26, 24), (0, 19, 30, 15)]) (by decide) rfl (Nat.le_of_ble_eq_true rfl) ?_
  intro p e s m args below meth c C htb h8
  refine zz_aload (pc := 0) C dL_waitFor_0 rfl ?_
  refine zz_iconst (pc := 2) C (v := 0) (by decide) dL_waitFor_2 ?_
  refine zz_aload_n (pc := 3) C dL_waitFor_3 rfl ?_
  refine zz_iload_n (pc := 4) C dL_waitFor_4 rfl ?_
  refine zz_iload_n (pc := 5) C dL_waitFor_5 rfl ?_
  refine zz_iload_n (pc := 6) C dL_waitFor_6 rfl ?_
  refine zzx_callV (pc := 7) C h8 (c_X2_waitFor l hl D (B := G) (G := G) hC hW hf9) gL_waitFor_X2_waitFor rfl 3 (by decide +kernel) ⟨Nat.le_of_ble_eq_true rfl, Nat.le_of_ble_eq_true rfl⟩ hC.x (ci := 2) rfl rfl rfl dL_waitFor_7 rfl (Nat.le_of_ble_eq_true rfl) rfl ⟨Nat.le_of_ble_eq_true rfl, Nat.le_of_ble_eq_true rfl⟩ (fun E hE => ?_) ?_
  · skip
    rcases hE with ⟨h1, rfl⟩ | ⟨h1, rfl⟩ | ⟨h1, rfl⟩
    · skip
      refine zzx_catch (pc := 7) (name := "java/lang/IndexOutOfBoundsException") C (tableOf []) (⟨0, 19, 22, 13⟩ : ExceptionTableEntry) (tableOf [(0, 19, 26, 24), (0, 19, 30, 15)]) (htb.trans rfl) ?_ rfl (by decide) (C.ts kl_L_waitFor_13) (zFace_moved (zFaces_ok _ (zIn_face (by decide))) (Vm.Alike.refl s.vm) (h8.2.2.2.1 _ (zIn_face (by decide)))) (fun qq => ?_)
      · exact fun z hz => absurd hz List.not_mem_nil
      · skip
        refine zz_astore (pc := 22) C dL_waitFor_22 (Nat.le_of_ble_eq_true rfl) ?_
        refine zz_iconst (pc := 24) C (v := 1) (by decide) dL_waitFor_24 ?_
        exact zzx_ret (zz_ireturn (pc := 25) C dL_waitFor_25 rfl (Nat.le_of_ble_eq_true rfl) (Nat.le_of_ble_eq_true rfl) ⟨by rw [h1], zWP_0 hC ho (by rw [h1]; decide)⟩)
    · skip
      refine zzx_catch (pc := 7) (name := "java/lang/IllegalArgumentException") C (tableOf [(0, 19, 22, 13)]) (⟨0, 19, 26, 24⟩ : ExceptionTableEntry) (tableOf [(0, 19, 30, 15)]) (htb.trans rfl) ?_ rfl (by decide) (C.ts kl_L_waitFor_24) (zFace_moved (zFaces_ok _ (zIn_face (by decide))) (Vm.Alike.refl s.vm) (h8.2.2.2.1 _ (zIn_face (by decide)))) (fun qq => ?_)
      · intro z hz; rcases List.mem_singleton.mp hz with rfl; exact Or.inr ⟨by decide, "java/lang/IndexOutOfBoundsException", C.ts kl_L_waitFor_13, h8.2.2.2.2.1 _ (by decide) _ (by decide) (by decide)⟩
      · skip
        refine zz_astore (pc := 26) C dL_waitFor_26 (Nat.le_of_ble_eq_true rfl) ?_
        refine zz_iconst (pc := 28) C (v := 2) (by decide) dL_waitFor_28 ?_
        exact zzx_ret (zz_ireturn (pc := 29) C dL_waitFor_29 rfl (Nat.le_of_ble_eq_true rfl) (Nat.le_of_ble_eq_true rfl) ⟨by rw [h1], zWP_0 hC ho (by rw [h1]; decide)⟩)
    · skip
      refine zzx_catch (pc := 7) (name := "java/lang/IllegalStateException") C (tableOf [(0, 19, 22, 13), (0, 19, 26, 24)]) (⟨0, 19, 30, 15⟩ : ExceptionTableEntry) (tableOf []) (htb.trans rfl) ?_ rfl (by decide) (C.ts kl_L_waitFor_15) (zFace_moved (zFaces_ok _ (zIn_face (by decide))) (Vm.Alike.refl s.vm) (h8.2.2.2.1 _ (zIn_face (by decide)))) (fun qq => ?_)
      · intro z hz; rcases List.mem_cons.mp hz with rfl | hz; exact Or.inr ⟨by decide, "java/lang/IndexOutOfBoundsException", C.ts kl_L_waitFor_13, h8.2.2.2.2.1 _ (by decide) _ (by decide) (by decide)⟩; rcases List.mem_singleton.mp hz with rfl; exact Or.inr ⟨by decide, "java/lang/IllegalArgumentException", C.ts kl_L_waitFor_24, h8.2.2.2.2.1 _ (by decide) _ (by decide) (by decide)⟩
      · skip
        refine zz_astore (pc := 30) C dL_waitFor_30 (Nat.le_of_ble_eq_true rfl) ?_
        refine zz_iconst (pc := 32) C (v := 3) (by decide) dL_waitFor_32 ?_
        exact zzx_ret (zz_ireturn (pc := 33) C dL_waitFor_33 rfl (Nat.le_of_ble_eq_true rfl) (Nat.le_of_ble_eq_true rfl) ⟨by rw [h1], zWP_0 hC ho (by rw [h1]; decide)⟩)
  rintro v G9 ⟨hth, rfl, hC1⟩
  refine zz_if_eq (pc := 10) C (tgt := 17) dL_waitFor_10 (by decide) (fun hc10 => ?_) (fun hc10 => ?_)
  · refine zz_lconst (pc := 17) C (v := 0) rfl dL_waitFor_17 ?_
    refine zz_last (pc := 18) C dL_waitFor_18 (n := 1) (hC1.fr o 3 _ ho (by decide)) (by unfold vp_in; decide) ?_
    refine zz_goto (pc := 19) C (tgt := 34) dL_waitFor_19 (by decide) ?_
    refine zz_iconst (pc := 34) C (v := 0) (by decide) dL_waitFor_34 ?_
    exact zzx_ret (zz_ireturn (pc := 35) C dL_waitFor_35 rfl (Nat.le_of_ble_eq_true rfl) (Nat.le_of_ble_eq_true rfl) ⟨by rw [hth], zWP_1 hC1 (hC1.fr o 3 _ ho (by decide)) hth (congrArg some (if_pos hc10)) rfl⟩)
  · refine zz_lconst (pc := 13) C (v := 1) rfl dL_waitFor_13 ?_
    refine zz_goto (pc := 14) C (tgt := 18) dL_waitFor_14 (by decide) ?_
    refine zz_last (pc := 18) C dL_waitFor_18 (n := 1) (hC1.fr o 3 _ ho (by decide)) (by unfold vp_in; decide) ?_
    refine zz_goto (pc := 19) C (tgt := 34) dL_waitFor_19 (by decide) ?_
    refine zz_iconst (pc := 34) C (v := 0) (by decide) dL_waitFor_34 ?_
    exact zzx_ret (zz_ireturn (pc := 35) C dL_waitFor_35 rfl (Nat.le_of_ble_eq_true rfl) (Nat.le_of_ble_eq_true rfl) ⟨by rw [hth], zWP_1 hC1 (hC1.fr o 3 _ ho (by decide)) hth (congrArg some (if_neg hc10)) rfl⟩)
theorem kl_L_setAction_13 : Cond.classLink RL 13 "java/lang/IndexOutOfBoundsException" ∈ wsL_setAction := by decide +kernel
theorem kl_L_setAction_24 : Cond.classLink RL 24 "java/lang/IllegalArgumentException" ∈ wsL_setAction := by decide +kernel
theorem kl_L_setAction_15 : Cond.classLink RL 15 "java/lang/IllegalStateException" ∈ wsL_setAction := by decide +kernel
set_option maxHeartbeats 4000000 in
set_option maxRecDepth 100000 in
theorem c_L_setAction (l : Launch) (hl : l.stackTraces = false) (D : va_G) {G : zG} {x tb ev : Nat} {A : Nat → Nat} {σ : zS} {m0 : Nat} {x9 s9 a9 : Int32} {o : Nat} {w : Nat → Int64} (hC : zCl G x tb ev A σ [] 0 m0 G) (hW : zWf σ) (ho : G o = some (zOut w)) : zxMet D l yL_setAction wsL_setAction ({ frames := 8, cells := 5, slots := 30, locals := 137 } : Room) [.ref x, .int x9, .int s9, .int a9, .ref o] G (fun v G9 => v = some (.int (zE3 (¬ zHere σ x9) (¬ zOkA s9 a9) (zNot σ (pn x9)))) ∧ zWP G x tb ev o σ (zSetA σ (pn x9) s9 a9) m0 m0 (zE3 (¬ zHere σ x9) (¬ zOkA s9 a9) (zNot σ (pn x9))) (some ((σ 9 (9 * pn x9 + pn s9))).toInt64) G9) (fun _ => False) := by
  refine zxMet_ofH (cc := cL_setAction) (maxL := 6) (ret := (some .int)) (hh := [(0, 12, 15, 13), (0, 12, 19, 24), (0, 12, 23, 15)]) (by decide) rfl (Nat.le_of_ble_eq_true rfl) ?_
  intro p e s m args below meth c C htb h8
  refine zz_aload (pc := 0) C dL_setAction_0 rfl ?_
  refine zz_iconst (pc := 2) C (v := 0) (by decide) dL_setAction_2 ?_
  refine zz_aload_n (pc := 3) C dL_setAction_3 rfl ?_
  refine zz_iload_n (pc := 4) C dL_setAction_4 rfl ?_
  refine zz_iload_n (pc := 5) C dL_setAction_5 rfl ?_
  refine zz_iload_n (pc := 6) C dL_setAction_6 rfl ?_
  refine zzx_callV (pc := 7) C h8 (c_X2_setAction l hl D (B := G) (G := G) hC hW) gL_setAction_X2_setAction rfl 3 (by decide +kernel) ⟨Nat.le_of_ble_eq_true rfl, Nat.le_of_ble_eq_true rfl⟩ hC.x (ci := 2) rfl rfl rfl dL_setAction_7 rfl (Nat.le_of_ble_eq_true rfl) rfl ⟨Nat.le_of_ble_eq_true rfl, Nat.le_of_ble_eq_true rfl⟩ (fun E hE => ?_) ?_
  · skip
    rcases hE with ⟨h1, rfl⟩ | ⟨h1, rfl⟩ | ⟨h1, rfl⟩
    · skip
      refine zzx_catch (pc := 7) (name := "java/lang/IndexOutOfBoundsException") C (tableOf []) (⟨0, 12, 15, 13⟩ : ExceptionTableEntry) (tableOf [(0, 12, 19, 24), (0, 12, 23, 15)]) (htb.trans rfl) ?_ rfl (by decide) (C.ts kl_L_setAction_13) (zFace_moved (zFaces_ok _ (zIn_face (by decide))) (Vm.Alike.refl s.vm) (h8.2.2.2.1 _ (zIn_face (by decide)))) (fun qq => ?_)
      · exact fun z hz => absurd hz List.not_mem_nil
      · skip
        refine zz_astore (pc := 15) C dL_setAction_15 (Nat.le_of_ble_eq_true rfl) ?_
        refine zz_iconst (pc := 17) C (v := 1) (by decide) dL_setAction_17 ?_
        exact zzx_ret (zz_ireturn (pc := 18) C dL_setAction_18 rfl (Nat.le_of_ble_eq_true rfl) (Nat.le_of_ble_eq_true rfl) ⟨by rw [h1], zWP_0 hC ho (by rw [h1]; decide)⟩)
    · skip
      refine zzx_catch (pc := 7) (name := "java/lang/IllegalArgumentException") C (tableOf [(0, 12, 15, 13)]) (⟨0, 12, 19, 24⟩ : ExceptionTableEntry) (tableOf [(0, 12, 23, 15)]) (htb.trans rfl) ?_ rfl (by decide) (C.ts kl_L_setAction_24) (zFace_moved (zFaces_ok _ (zIn_face (by decide))) (Vm.Alike.refl s.vm) (h8.2.2.2.1 _ (zIn_face (by decide)))) (fun qq => ?_)
      · intro z hz; rcases List.mem_singleton.mp hz with rfl; exact Or.inr ⟨by decide, "java/lang/IndexOutOfBoundsException", C.ts kl_L_setAction_13, h8.2.2.2.2.1 _ (by decide) _ (by decide) (by decide)⟩
      · skip
        refine zz_astore (pc := 19) C dL_setAction_19 (Nat.le_of_ble_eq_true rfl) ?_
        refine zz_iconst (pc := 21) C (v := 2) (by decide) dL_setAction_21 ?_
        exact zzx_ret (zz_ireturn (pc := 22) C dL_setAction_22 rfl (Nat.le_of_ble_eq_true rfl) (Nat.le_of_ble_eq_true rfl) ⟨by rw [h1], zWP_0 hC ho (by rw [h1]; decide)⟩)
    · skip
      refine zzx_catch (pc := 7) (name := "java/lang/IllegalStateException") C (tableOf [(0, 12, 15, 13), (0, 12, 19, 24)]) (⟨0, 12, 23, 15⟩ : ExceptionTableEntry) (tableOf []) (htb.trans rfl) ?_ rfl (by decide) (C.ts kl_L_setAction_15) (zFace_moved (zFaces_ok _ (zIn_face (by decide))) (Vm.Alike.refl s.vm) (h8.2.2.2.1 _ (zIn_face (by decide)))) (fun qq => ?_)
      · intro z hz; rcases List.mem_cons.mp hz with rfl | hz; exact Or.inr ⟨by decide, "java/lang/IndexOutOfBoundsException", C.ts kl_L_setAction_13, h8.2.2.2.2.1 _ (by decide) _ (by decide) (by decide)⟩; rcases List.mem_singleton.mp hz with rfl; exact Or.inr ⟨by decide, "java/lang/IllegalArgumentException", C.ts kl_L_setAction_24, h8.2.2.2.2.1 _ (by decide) _ (by decide) (by decide)⟩
      · skip
        refine zz_astore (pc := 23) C dL_setAction_23 (Nat.le_of_ble_eq_true rfl) ?_
        refine zz_iconst (pc := 25) C (v := 3) (by decide) dL_setAction_25 ?_
        exact zzx_ret (zz_ireturn (pc := 26) C dL_setAction_26 rfl (Nat.le_of_ble_eq_true rfl) (Nat.le_of_ble_eq_true rfl) ⟨by rw [h1], zWP_0 hC ho (by rw [h1]; decide)⟩)
  rintro v G9 ⟨hth, rfl, hC1⟩
  refine zz_i2l (pc := 10) C dL_setAction_10 ?_
  refine zz_last (pc := 11) C dL_setAction_11 (n := 1) (hC1.fr o 3 _ ho (by decide)) (by unfold vp_in; decide) ?_
  refine zz_goto (pc := 12) C (tgt := 27) dL_setAction_12 (by decide) ?_
  refine zz_iconst (pc := 27) C (v := 0) (by decide) dL_setAction_27 ?_
  exact zzx_ret (zz_ireturn (pc := 28) C dL_setAction_28 rfl (Nat.le_of_ble_eq_true rfl) (Nat.le_of_ble_eq_true rfl) ⟨by rw [hth], zWP_1 hC1 (hC1.fr o 3 _ ho (by decide)) hth rfl rfl⟩)
theorem kl_L_setMask_13 : Cond.classLink RL 13 "java/lang/IndexOutOfBoundsException" ∈ wsL_setMask := by decide +kernel
theorem kl_L_setMask_24 : Cond.classLink RL 24 "java/lang/IllegalArgumentException" ∈ wsL_setMask := by decide +kernel
theorem kl_L_setMask_15 : Cond.classLink RL 15 "java/lang/IllegalStateException" ∈ wsL_setMask := by decide +kernel
set_option maxHeartbeats 4000000 in
set_option maxRecDepth 100000 in
theorem c_L_setMask (l : Launch) (hl : l.stackTraces = false) (D : va_G) {G : zG} {x tb ev : Nat} {A : Nat → Nat} {σ : zS} {m0 N : Nat} {x9 c9 : Int32} {X : zS × List zEv} {o : Nat} {w : Nat → Int64} (hC : zCl G x tb ev A σ [] 0 m0 G) (hW : zWf σ) (hX : X = zDel (zMk σ (pn x9) c9, []) (pn x9)) (hrun : zE3 (¬ zHere σ x9) (c9 < 0 ∨ (511 : Int32) < c9) (zNot σ (pn x9)) = 0 → zReady N X) (ho : G o = some (zOut w)) : zxMet D l yL_setMask wsL_setMask (zRmX 10 253 m0 (zCount N X.1 X.2) 3) [.ref x, .int x9, .int c9, .ref o] G (fun v G9 => v = some (.int (zE3 (¬ zHere σ x9) (c9 < 0 ∨ (511 : Int32) < c9) (zNot σ (pn x9)))) ∧ zWP G x tb ev o σ (zFin N X) m0 (max m0 (zCount N X.1 X.2)) (zE3 (¬ zHere σ x9) (c9 < 0 ∨ (511 : Int32) < c9) (zNot σ (pn x9))) (some ((σ 10 (pn x9))).toInt64) G9) (fun _ => False) := by
  refine zxMet_ofH (cc := cL_setMask) (maxL := 5) (ret := (some .int)) (hh := [(0, 10, 13, 13), (0, 10, 17, 24), (0, 10, 21, 15)]) (by decide) rfl (Nat.le_of_ble_eq_true rfl) ?_
  intro p e s m args below meth c C htb h8
  refine zz_aload_n (pc := 0) C dL_setMask_0 rfl ?_
  refine zz_iconst (pc := 1) C (v := 0) (by decide) dL_setMask_1 ?_
  refine zz_aload_n (pc := 2) C dL_setMask_2 rfl ?_
  refine zz_iload_n (pc := 3) C dL_setMask_3 rfl ?_
  refine zz_iload_n (pc := 4) C dL_setMask_4 rfl ?_
  refine zzx_callV (pc := 5) C h8 (c_X2_setMask l hl D (B := G) (G := G) (X := X) (N := N) hC hW hX hrun) gL_setMask_X2_setMask rfl 2 (by decide +kernel) ⟨Nat.le_of_ble_eq_true rfl, Nat.le_of_ble_eq_true rfl⟩ hC.x (ci := 2) rfl rfl rfl dL_setMask_5 rfl (Nat.le_of_ble_eq_true rfl) rfl ⟨Nat.le_of_eq (Nat.zero_add _), Nat.le_of_eq (Nat.zero_add _)⟩ (fun E hE => ?_) ?_
  · skip
    rcases hE with ⟨h1, rfl⟩ | ⟨h1, rfl⟩ | ⟨h1, rfl⟩
    · skip
      refine zzx_catch (pc := 5) (name := "java/lang/IndexOutOfBoundsException") C (tableOf []) (⟨0, 10, 13, 13⟩ : ExceptionTableEntry) (tableOf [(0, 10, 17, 24), (0, 10, 21, 15)]) (htb.trans rfl) ?_ rfl (by decide) (C.ts kl_L_setMask_13) (zFace_moved (zFaces_ok _ (zIn_face (by decide))) (Vm.Alike.refl s.vm) (h8.2.2.2.1 _ (zIn_face (by decide)))) (fun qq => ?_)
      · exact fun z hz => absurd hz List.not_mem_nil
      · skip
        refine zz_astore (pc := 13) C dL_setMask_13 (Nat.le_of_ble_eq_true rfl) ?_
        refine zz_iconst (pc := 15) C (v := 1) (by decide) dL_setMask_15 ?_
        exact zzx_ret (zz_ireturn (pc := 16) C dL_setMask_16 rfl (Nat.le_of_eq (Nat.zero_add _)) (Nat.le_of_eq (Nat.zero_add _)) ⟨by rw [h1], zWP_0 hC ho (by rw [h1]; decide)⟩)
    · skip
      refine zzx_catch (pc := 5) (name := "java/lang/IllegalArgumentException") C (tableOf [(0, 10, 13, 13)]) (⟨0, 10, 17, 24⟩ : ExceptionTableEntry) (tableOf [(0, 10, 21, 15)]) (htb.trans rfl) ?_ rfl (by decide) (C.ts kl_L_setMask_24) (zFace_moved (zFaces_ok _ (zIn_face (by decide))) (Vm.Alike.refl s.vm) (h8.2.2.2.1 _ (zIn_face (by decide)))) (fun qq => ?_)
      · intro z hz; rcases List.mem_singleton.mp hz with rfl; exact Or.inr ⟨by decide, "java/lang/IndexOutOfBoundsException", C.ts kl_L_setMask_13, h8.2.2.2.2.1 _ (by decide) _ (by decide) (by decide)⟩
      · skip
        refine zz_astore (pc := 17) C dL_setMask_17 (Nat.le_of_ble_eq_true rfl) ?_
        refine zz_iconst (pc := 19) C (v := 2) (by decide) dL_setMask_19 ?_
        exact zzx_ret (zz_ireturn (pc := 20) C dL_setMask_20 rfl (Nat.le_of_eq (Nat.zero_add _)) (Nat.le_of_eq (Nat.zero_add _)) ⟨by rw [h1], zWP_0 hC ho (by rw [h1]; decide)⟩)
    · skip
      refine zzx_catch (pc := 5) (name := "java/lang/IllegalStateException") C (tableOf [(0, 10, 13, 13), (0, 10, 17, 24)]) (⟨0, 10, 21, 15⟩ : ExceptionTableEntry) (tableOf []) (htb.trans rfl) ?_ rfl (by decide) (C.ts kl_L_setMask_15) (zFace_moved (zFaces_ok _ (zIn_face (by decide))) (Vm.Alike.refl s.vm) (h8.2.2.2.1 _ (zIn_face (by decide)))) (fun qq => ?_)
      · intro z hz; rcases List.mem_cons.mp hz with rfl | hz; exact Or.inr ⟨by decide, "java/lang/IndexOutOfBoundsException", C.ts kl_L_setMask_13, h8.2.2.2.2.1 _ (by decide) _ (by decide) (by decide)⟩; rcases List.mem_singleton.mp hz with rfl; exact Or.inr ⟨by decide, "java/lang/IllegalArgumentException", C.ts kl_L_setMask_24, h8.2.2.2.2.1 _ (by decide) _ (by decide) (by decide)⟩
      · skip
        refine zz_astore (pc := 21) C dL_setMask_21 (Nat.le_of_ble_eq_true rfl) ?_
        refine zz_iconst (pc := 23) C (v := 3) (by decide) dL_setMask_23 ?_
        exact zzx_ret (zz_ireturn (pc := 24) C dL_setMask_24 rfl (Nat.le_of_eq (Nat.zero_add _)) (Nat.le_of_eq (Nat.zero_add _)) ⟨by rw [h1], zWP_0 hC ho (by rw [h1]; decide)⟩)
  rintro v G9 ⟨hth, rfl, hC1⟩
  refine zz_i2l (pc := 8) C dL_setMask_8 ?_
  refine zz_last (pc := 9) C dL_setMask_9 (n := 1) (hC1.fr o 3 _ ho (by decide)) (by unfold vp_in; decide) ?_
  refine zz_goto (pc := 10) C (tgt := 25) dL_setMask_10 (by decide) ?_
  refine zz_iconst (pc := 25) C (v := 0) (by decide) dL_setMask_25 ?_
  exact zzx_ret (zz_ireturn (pc := 26) C dL_setMask_26 rfl (Nat.le_of_eq (Nat.zero_add _)) (Nat.le_of_eq (Nat.zero_add _)) ⟨by rw [hth], zWP_1 hC1 (hC1.fr o 3 _ ho (by decide)) hth rfl rfl⟩)
theorem kl_L_beginSession_13 : Cond.classLink RL 13 "java/lang/IndexOutOfBoundsException" ∈ wsL_beginSession := by decide +kernel
theorem kl_L_beginSession_15 : Cond.classLink RL 15 "java/lang/IllegalStateException" ∈ wsL_beginSession := by decide +kernel
set_option maxHeartbeats 4000000 in
set_option maxRecDepth 100000 in
theorem c_L_beginSession (l : Launch) (hl : l.stackTraces = false) (D : va_G) {G : zG} {x tb ev : Nat} {A : Nat → Nat} {σ : zS} {m0 : Nat} {x9 : Int32} {o : Nat} {w : Nat → Int64} (hC : zCl G x tb ev A σ [] 0 m0 G)  (ho : G o = some (zOut w)) : zxMet D l yL_beginSession wsL_beginSession ({ frames := 8, cells := 3, slots := 18, locals := 134 } : Room) [.ref x, .int x9] G (fun v G9 => v = some (.int (zE2 (¬ zHere σ x9) (zNot σ (pn x9) ∨ zIsGrp σ x9 41))) ∧ zWP G x tb ev o σ (zu (zu σ 3 (pn x9) x9) 2 (pn x9) x9) m0 m0 (zE2 (¬ zHere σ x9) (zNot σ (pn x9) ∨ zIsGrp σ x9 41)) none G9) (fun _ => False) := by
  refine zxMet_ofH (cc := cL_beginSession) (maxL := 3) (ret := (some .int)) (hh := [(0, 5, 8, 13), (0, 5, 11, 15)]) (by decide) rfl (Nat.le_of_ble_eq_true rfl) ?_
  intro p e s m args below meth c C htb h8
  refine zz_aload_n (pc := 0) C dL_beginSession_0 rfl ?_
  refine zz_iload_n (pc := 1) C dL_beginSession_1 rfl ?_
  refine zzx_callV (pc := 2) C h8 (c_X2_beginSession l hl D (B := G) (G := G) hC ) gL_beginSession_X2_beginSession rfl 1 (by decide +kernel) ⟨Nat.le_of_ble_eq_true rfl, Nat.le_of_ble_eq_true rfl⟩ hC.x (ci := 2) rfl rfl rfl dL_beginSession_2 rfl (Nat.le_of_ble_eq_true rfl) rfl ⟨Nat.le_of_ble_eq_true rfl, Nat.le_of_ble_eq_true rfl⟩ (fun E hE => ?_) ?_
  · skip
    rcases hE with ⟨h1, rfl⟩ | ⟨h1, rfl⟩
    · skip
      refine zzx_catch (pc := 2) (name := "java/lang/IndexOutOfBoundsException") C (tableOf []) (⟨0, 5, 8, 13⟩ : ExceptionTableEntry) (tableOf [(0, 5, 11, 15)]) (htb.trans rfl) ?_ rfl (by decide) (C.ts kl_L_beginSession_13) (zFace_moved (zFaces_ok _ (zIn_face (by decide))) (Vm.Alike.refl s.vm) (h8.2.2.2.1 _ (zIn_face (by decide)))) (fun qq => ?_)
      · exact fun z hz => absurd hz List.not_mem_nil
      · skip
        refine zz_astore_n (pc := 8) C dL_beginSession_8 (Nat.le_of_ble_eq_true rfl) ?_
        refine zz_iconst (pc := 9) C (v := 1) (by decide) dL_beginSession_9 ?_
        exact zzx_ret (zz_ireturn (pc := 10) C dL_beginSession_10 rfl (Nat.le_of_ble_eq_true rfl) (Nat.le_of_ble_eq_true rfl) ⟨by rw [h1], zWP_0 hC ho (by rw [h1]; decide)⟩)
    · skip
      refine zzx_catch (pc := 2) (name := "java/lang/IllegalStateException") C (tableOf [(0, 5, 8, 13)]) (⟨0, 5, 11, 15⟩ : ExceptionTableEntry) (tableOf []) (htb.trans rfl) ?_ rfl (by decide) (C.ts kl_L_beginSession_15) (zFace_moved (zFaces_ok _ (zIn_face (by decide))) (Vm.Alike.refl s.vm) (h8.2.2.2.1 _ (zIn_face (by decide)))) (fun qq => ?_)
      · intro z hz; rcases List.mem_singleton.mp hz with rfl; exact Or.inr ⟨by decide, "java/lang/IndexOutOfBoundsException", C.ts kl_L_beginSession_13, h8.2.2.2.2.1 _ (by decide) _ (by decide) (by decide)⟩
      · skip
        refine zz_astore_n (pc := 11) C dL_beginSession_11 (Nat.le_of_ble_eq_true rfl) ?_
        refine zz_iconst (pc := 12) C (v := 2) (by decide) dL_beginSession_12 ?_
        exact zzx_ret (zz_ireturn (pc := 13) C dL_beginSession_13 rfl (Nat.le_of_ble_eq_true rfl) (Nat.le_of_ble_eq_true rfl) ⟨by rw [h1], zWP_0 hC ho (by rw [h1]; decide)⟩)
  rintro v G9 ⟨hth, rfl, hC1⟩
  refine zz_goto (pc := 5) C (tgt := 14) dL_beginSession_5 (by decide) ?_
  refine zz_iconst (pc := 14) C (v := 0) (by decide) dL_beginSession_14 ?_
  exact zzx_ret (zz_ireturn (pc := 15) C dL_beginSession_15 rfl (Nat.le_of_ble_eq_true rfl) (Nat.le_of_ble_eq_true rfl) ⟨by rw [hth], zWP_1n hC1 ho hth⟩)
