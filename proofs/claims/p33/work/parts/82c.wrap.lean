theorem kl_L_setsAction_14 : Cond.classLink RL 14 "java/lang/IndexOutOfBoundsException" ∈ wsL_setsAction := by decide +kernel
theorem kl_L_setsAction_31 : Cond.classLink RL 31 "java/lang/IllegalArgumentException" ∈ wsL_setsAction := by decide +kernel
theorem kl_L_setsAction_16 : Cond.classLink RL 16 "java/lang/IllegalStateException" ∈ wsL_setsAction := by decide +kernel
set_option maxHeartbeats 4000000 in
set_option maxRecDepth 100000 in
theorem c_L_setsAction (l : Launch) (hl : l.stackTraces = false) (D : va_G) {B G : zG} {x tb ev : Nat} {A : Nat → Nat} {σ : zS} {m0 : Nat} {x9 s9 a9 : Int32} (hC : zCl B x tb ev A σ [] 0 m0 G) (hW : zWf σ) : zxMet D l yL_setsAction wsL_setsAction ({ frames := 8, cells := 5, slots := 30, locals := 137 } : Room) [.ref x, .int x9, .int s9, .int a9] G (fun v G9 => (zE3 (¬ zHere σ x9) (¬ zOkA s9 a9) (zNot σ (pn x9)) = 0 ∧ v = some (.int (σ 9 (9 * pn x9 + pn s9))) ∧ zCl B x tb ev A (zSetA σ (pn x9) s9 a9) [] 0 m0 G9) ∨ (zE3 (¬ zHere σ x9) (¬ zOkA s9 a9) (zNot σ (pn x9)) = 1 ∧ v = some (.int (-30)) ∧ G9 = G) ∨ (zE3 (¬ zHere σ x9) (¬ zOkA s9 a9) (zNot σ (pn x9)) = 2 ∧ v = some (.int (-20)) ∧ G9 = G) ∨ (zE3 (¬ zHere σ x9) (¬ zOkA s9 a9) (zNot σ (pn x9)) = 3 ∧ v = some (.int (-10)) ∧ G9 = G)) (fun _ => False) := by
  refine zxMet_ofH (cc := cL_setsAction) (maxL := 5) (ret := (some .int)) (hh := [(0, 7, 8, 14), (0, 7, 13, 31), (0, 7, 18, 16)]) (by decide) rfl (Nat.le_of_ble_eq_true rfl) ?_
  intro p e s m args below meth c C htb h8
  refine zz_aload_n (pc := 0) C dL_setsAction_0 rfl ?_
  refine zz_iload_n (pc := 1) C dL_setsAction_1 rfl ?_
  refine zz_iload_n (pc := 2) C dL_setsAction_2 rfl ?_
  refine zz_iload_n (pc := 3) C dL_setsAction_3 rfl ?_
  refine zzx_callV (pc := 4) C h8 (c_X2_setAction l hl D (B := B) (G := G) hC hW) gL_setsAction_X2_setAction rfl 3 (by decide +kernel) ⟨Nat.le_of_ble_eq_true rfl, Nat.le_of_ble_eq_true rfl⟩ hC.x (ci := 2) rfl rfl rfl dL_setsAction_4 rfl (Nat.le_of_ble_eq_true rfl) rfl ⟨Nat.le_of_ble_eq_true rfl, Nat.le_of_ble_eq_true rfl⟩ (fun E hE => ?_) ?_
  · skip
    rcases hE with ⟨h1, rfl⟩ | ⟨h1, rfl⟩ | ⟨h1, rfl⟩
    · skip
      refine zzx_catch (pc := 4) (name := "java/lang/IndexOutOfBoundsException") C (tableOf []) (⟨0, 7, 8, 14⟩ : ExceptionTableEntry) (tableOf [(0, 7, 13, 31), (0, 7, 18, 16)]) (htb.trans rfl) ?_ rfl (by decide) (C.ts kl_L_setsAction_14) (zFace_moved (zFaces_ok _ (zIn_face (by decide))) (Vm.Alike.refl s.vm) (h8.2.2.2.1 _ (zIn_face (by decide)))) (fun qq => ?_)
      · exact fun z hz => absurd hz List.not_mem_nil
      · skip
        refine zz_astore (pc := 8) C dL_setsAction_8 (Nat.le_of_ble_eq_true rfl) ?_
        refine zz_bipush (pc := 10) C (v := -30) (by decide) dL_setsAction_10 ?_
        exact zzx_ret (zz_ireturn (pc := 12) C dL_setsAction_12 rfl (Nat.le_of_ble_eq_true rfl) (Nat.le_of_ble_eq_true rfl) (Or.inr (Or.inl (⟨h1, rfl, rfl⟩))))
    · skip
      refine zzx_catch (pc := 4) (name := "java/lang/IllegalArgumentException") C (tableOf [(0, 7, 8, 14)]) (⟨0, 7, 13, 31⟩ : ExceptionTableEntry) (tableOf [(0, 7, 18, 16)]) (htb.trans rfl) ?_ rfl (by decide) (C.ts kl_L_setsAction_31) (zFace_moved (zFaces_ok _ (zIn_face (by decide))) (Vm.Alike.refl s.vm) (h8.2.2.2.1 _ (zIn_face (by decide)))) (fun qq => ?_)
      · intro z hz; rcases List.mem_singleton.mp hz with rfl; exact Or.inr ⟨by decide, "java/lang/IndexOutOfBoundsException", C.ts kl_L_setsAction_14, h8.2.2.2.2.1 _ (by decide) _ (by decide) (by decide)⟩
      · skip
        refine zz_astore (pc := 13) C dL_setsAction_13 (Nat.le_of_ble_eq_true rfl) ?_
        refine zz_bipush (pc := 15) C (v := -20) (by decide) dL_setsAction_15 ?_
        exact zzx_ret (zz_ireturn (pc := 17) C dL_setsAction_17 rfl (Nat.le_of_ble_eq_true rfl) (Nat.le_of_ble_eq_true rfl) (Or.inr (Or.inr (Or.inl (⟨h1, rfl, rfl⟩)))))
    · skip
      refine zzx_catch (pc := 4) (name := "java/lang/IllegalStateException") C (tableOf [(0, 7, 8, 14), (0, 7, 13, 31)]) (⟨0, 7, 18, 16⟩ : ExceptionTableEntry) (tableOf []) (htb.trans rfl) ?_ rfl (by decide) (C.ts kl_L_setsAction_16) (zFace_moved (zFaces_ok _ (zIn_face (by decide))) (Vm.Alike.refl s.vm) (h8.2.2.2.1 _ (zIn_face (by decide)))) (fun qq => ?_)
      · intro z hz; rcases List.mem_cons.mp hz with rfl | hz; exact Or.inr ⟨by decide, "java/lang/IndexOutOfBoundsException", C.ts kl_L_setsAction_14, h8.2.2.2.2.1 _ (by decide) _ (by decide) (by decide)⟩; rcases List.mem_singleton.mp hz with rfl; exact Or.inr ⟨by decide, "java/lang/IllegalArgumentException", C.ts kl_L_setsAction_31, h8.2.2.2.2.1 _ (by decide) _ (by decide) (by decide)⟩
      · skip
        refine zz_astore (pc := 18) C dL_setsAction_18 (Nat.le_of_ble_eq_true rfl) ?_
        refine zz_bipush (pc := 20) C (v := -10) (by decide) dL_setsAction_20 ?_
        exact zzx_ret (zz_ireturn (pc := 22) C dL_setsAction_22 rfl (Nat.le_of_ble_eq_true rfl) (Nat.le_of_ble_eq_true rfl) (Or.inr (Or.inr (Or.inr (⟨h1, rfl, rfl⟩)))))
  rintro v G9 ⟨hth, rfl, hC1⟩
  exact zzx_ret (zz_ireturn (pc := 7) C dL_setsAction_7 rfl (Nat.le_of_ble_eq_true rfl) (Nat.le_of_ble_eq_true rfl) (Or.inl ⟨hth, rfl, hC1⟩))
theorem kl_L_setsMask_14 : Cond.classLink RL 14 "java/lang/IndexOutOfBoundsException" ∈ wsL_setsMask := by decide +kernel
theorem kl_L_setsMask_31 : Cond.classLink RL 31 "java/lang/IllegalArgumentException" ∈ wsL_setsMask := by decide +kernel
theorem kl_L_setsMask_16 : Cond.classLink RL 16 "java/lang/IllegalStateException" ∈ wsL_setsMask := by decide +kernel
set_option maxHeartbeats 4000000 in
set_option maxRecDepth 100000 in
theorem c_L_setsMask (l : Launch) (hl : l.stackTraces = false) (D : va_G) {B G : zG} {x tb ev : Nat} {A : Nat → Nat} {σ : zS} {m0 N : Nat} {x9 c9 : Int32} {X : zS × List zEv} (hC : zCl B x tb ev A σ [] 0 m0 G) (hW : zWf σ) (hX : X = zDel (zMk σ (pn x9) c9, []) (pn x9)) (hrun : zE3 (¬ zHere σ x9) (c9 < 0 ∨ (511 : Int32) < c9) (zNot σ (pn x9)) = 0 → zReady N X) : zxMet D l yL_setsMask wsL_setsMask (zRmX 10 253 m0 (zCount N X.1 X.2) 3) [.ref x, .int x9, .int c9] G (fun v G9 => (zE3 (¬ zHere σ x9) (c9 < 0 ∨ (511 : Int32) < c9) (zNot σ (pn x9)) = 0 ∧ v = some (.int (σ 10 (pn x9))) ∧ zCl B x tb ev A (zFin N X) [] 0 (max m0 (zCount N X.1 X.2)) G9) ∨ (zE3 (¬ zHere σ x9) (c9 < 0 ∨ (511 : Int32) < c9) (zNot σ (pn x9)) = 1 ∧ v = some (.int (-30)) ∧ G9 = G) ∨ (zE3 (¬ zHere σ x9) (c9 < 0 ∨ (511 : Int32) < c9) (zNot σ (pn x9)) = 2 ∧ v = some (.int (-20)) ∧ G9 = G) ∨ (zE3 (¬ zHere σ x9) (c9 < 0 ∨ (511 : Int32) < c9) (zNot σ (pn x9)) = 3 ∧ v = some (.int (-10)) ∧ G9 = G)) (fun _ => False) := by
  refine zxMet_ofH (cc := cL_setsMask) (maxL := 4) (ret := (some .int)) (hh := [(0, 6, 7, 14), (0, 6, 11, 31), (0, 6, 15, 16)]) (by decide) rfl (Nat.le_of_ble_eq_true rfl) ?_
  intro p e s m args below meth c C htb h8
  refine zz_aload_n (pc := 0) C dL_setsMask_0 rfl ?_
  refine zz_iload_n (pc := 1) C dL_setsMask_1 rfl ?_
  refine zz_iload_n (pc := 2) C dL_setsMask_2 rfl ?_
  refine zzx_callV (pc := 3) C h8 (c_X2_setMask l hl D (B := B) (G := G) (X := X) (N := N) hC hW hX hrun) gL_setsMask_X2_setMask rfl 2 (by decide +kernel) ⟨Nat.le_of_ble_eq_true rfl, Nat.le_of_ble_eq_true rfl⟩ hC.x (ci := 2) rfl rfl rfl dL_setsMask_3 rfl (Nat.le_of_ble_eq_true rfl) rfl ⟨Nat.le_of_eq (Nat.zero_add _), Nat.le_of_eq (Nat.zero_add _)⟩ (fun E hE => ?_) ?_
  · skip
    rcases hE with ⟨h1, rfl⟩ | ⟨h1, rfl⟩ | ⟨h1, rfl⟩
    · skip
      refine zzx_catch (pc := 3) (name := "java/lang/IndexOutOfBoundsException") C (tableOf []) (⟨0, 6, 7, 14⟩ : ExceptionTableEntry) (tableOf [(0, 6, 11, 31), (0, 6, 15, 16)]) (htb.trans rfl) ?_ rfl (by decide) (C.ts kl_L_setsMask_14) (zFace_moved (zFaces_ok _ (zIn_face (by decide))) (Vm.Alike.refl s.vm) (h8.2.2.2.1 _ (zIn_face (by decide)))) (fun qq => ?_)
      · exact fun z hz => absurd hz List.not_mem_nil
      · skip
        refine zz_astore_n (pc := 7) C dL_setsMask_7 (Nat.le_of_ble_eq_true rfl) ?_
        refine zz_bipush (pc := 8) C (v := -30) (by decide) dL_setsMask_8 ?_
        exact zzx_ret (zz_ireturn (pc := 10) C dL_setsMask_10 rfl (Nat.le_of_eq (Nat.zero_add _)) (Nat.le_of_eq (Nat.zero_add _)) (Or.inr (Or.inl (⟨h1, rfl, rfl⟩))))
    · skip
      refine zzx_catch (pc := 3) (name := "java/lang/IllegalArgumentException") C (tableOf [(0, 6, 7, 14)]) (⟨0, 6, 11, 31⟩ : ExceptionTableEntry) (tableOf [(0, 6, 15, 16)]) (htb.trans rfl) ?_ rfl (by decide) (C.ts kl_L_setsMask_31) (zFace_moved (zFaces_ok _ (zIn_face (by decide))) (Vm.Alike.refl s.vm) (h8.2.2.2.1 _ (zIn_face (by decide)))) (fun qq => ?_)
      · intro z hz; rcases List.mem_singleton.mp hz with rfl; exact Or.inr ⟨by decide, "java/lang/IndexOutOfBoundsException", C.ts kl_L_setsMask_14, h8.2.2.2.2.1 _ (by decide) _ (by decide) (by decide)⟩
      · skip
        refine zz_astore_n (pc := 11) C dL_setsMask_11 (Nat.le_of_ble_eq_true rfl) ?_
        refine zz_bipush (pc := 12) C (v := -20) (by decide) dL_setsMask_12 ?_
        exact zzx_ret (zz_ireturn (pc := 14) C dL_setsMask_14 rfl (Nat.le_of_eq (Nat.zero_add _)) (Nat.le_of_eq (Nat.zero_add _)) (Or.inr (Or.inr (Or.inl (⟨h1, rfl, rfl⟩)))))
    · skip
      refine zzx_catch (pc := 3) (name := "java/lang/IllegalStateException") C (tableOf [(0, 6, 7, 14), (0, 6, 11, 31)]) (⟨0, 6, 15, 16⟩ : ExceptionTableEntry) (tableOf []) (htb.trans rfl) ?_ rfl (by decide) (C.ts kl_L_setsMask_16) (zFace_moved (zFaces_ok _ (zIn_face (by decide))) (Vm.Alike.refl s.vm) (h8.2.2.2.1 _ (zIn_face (by decide)))) (fun qq => ?_)
      · intro z hz; rcases List.mem_cons.mp hz with rfl | hz; exact Or.inr ⟨by decide, "java/lang/IndexOutOfBoundsException", C.ts kl_L_setsMask_14, h8.2.2.2.2.1 _ (by decide) _ (by decide) (by decide)⟩; rcases List.mem_singleton.mp hz with rfl; exact Or.inr ⟨by decide, "java/lang/IllegalArgumentException", C.ts kl_L_setsMask_31, h8.2.2.2.2.1 _ (by decide) _ (by decide) (by decide)⟩
      · skip
        refine zz_astore_n (pc := 15) C dL_setsMask_15 (Nat.le_of_ble_eq_true rfl) ?_
        refine zz_bipush (pc := 16) C (v := -10) (by decide) dL_setsMask_16 ?_
        exact zzx_ret (zz_ireturn (pc := 18) C dL_setsMask_18 rfl (Nat.le_of_eq (Nat.zero_add _)) (Nat.le_of_eq (Nat.zero_add _)) (Or.inr (Or.inr (Or.inr (⟨h1, rfl, rfl⟩)))))
  rintro v G9 ⟨hth, rfl, hC1⟩
  exact zzx_ret (zz_ireturn (pc := 6) C dL_setsMask_6 rfl (Nat.le_of_eq (Nat.zero_add _)) (Nat.le_of_eq (Nat.zero_add _)) (Or.inl ⟨hth, rfl, hC1⟩))
set_option maxHeartbeats 4000000 in
set_option maxRecDepth 100000 in
theorem c_L_begun (l : Launch) (hl : l.stackTraces = false) (D : va_G) {B G : zG} {x tb ev : Nat} {A : Nat → Nat} {σ : zS} {m0 : Nat} {x9 : Int32} (hC : zCl B x tb ev A σ [] 0 m0 G)  : zxMet D l yL_begun wsL_begun ({ frames := 8, cells := 3, slots := 18, locals := 134 } : Room) [.ref x, .int x9] G (fun v G9 => zE2 (¬ zHere σ x9) (zNot σ (pn x9) ∨ zIsGrp σ x9 41) = 0 ∧ v = some (.int 0) ∧ zCl B x tb ev A (zu (zu σ 3 (pn x9) x9) 2 (pn x9) x9) [] 0 m0 G9) (fun E => (zE2 (¬ zHere σ x9) (zNot σ (pn x9) ∨ zIsGrp σ x9 41) = 1 ∧ E = "java/lang/IndexOutOfBoundsException") ∨ (zE2 (¬ zHere σ x9) (zNot σ (pn x9) ∨ zIsGrp σ x9 41) = 2 ∧ E = "java/lang/IllegalStateException")) := by
  refine zxMet_of (cc := cL_begun) (maxL := 2) (ret := (some .int)) (by decide) rfl (Nat.le_of_ble_eq_true rfl) ?_
  intro p e s m args below meth c C hnx h8
  refine zz_aload_n (pc := 0) C dL_begun_0 rfl ?_
  refine zz_iload_n (pc := 1) C dL_begun_1 rfl ?_
  refine zzx_callV (pc := 2) C h8 (c_X2_beginSession l hl D (B := B) (G := G) hC ) gL_begun_X2_beginSession rfl 1 (by decide +kernel) ⟨Nat.le_of_ble_eq_true rfl, Nat.le_of_ble_eq_true rfl⟩ hC.x (ci := 2) rfl rfl rfl dL_begun_2 rfl (Nat.le_of_ble_eq_true rfl) rfl ⟨Nat.le_of_ble_eq_true rfl, Nat.le_of_ble_eq_true rfl⟩ (fun E hE => zzx_out C hnx hE (Nat.le_of_ble_eq_true rfl) (Nat.le_of_ble_eq_true rfl)) ?_
  rintro v G9 ⟨hth, rfl, hC1⟩
  refine zz_iconst (pc := 5) C (v := 0) (by decide) dL_begun_5 ?_
  exact zzx_ret (zz_ireturn (pc := 6) C dL_begun_6 rfl (Nat.le_of_ble_eq_true rfl) (Nat.le_of_ble_eq_true rfl) ⟨hth, rfl, hC1⟩)
theorem kl_L_begins_14 : Cond.classLink RL 14 "java/lang/IndexOutOfBoundsException" ∈ wsL_begins := by decide +kernel
theorem kl_L_begins_16 : Cond.classLink RL 16 "java/lang/IllegalStateException" ∈ wsL_begins := by decide +kernel
set_option maxHeartbeats 4000000 in
set_option maxRecDepth 100000 in
theorem c_L_begins (l : Launch) (hl : l.stackTraces = false) (D : va_G) {B G : zG} {x tb ev : Nat} {A : Nat → Nat} {σ : zS} {m0 : Nat} {x9 : Int32} (hC : zCl B x tb ev A σ [] 0 m0 G)  : zxMet D l yL_begins wsL_begins ({ frames := 9, cells := 3, slots := 18, locals := 155 } : Room) [.ref x, .int x9] G (fun v G9 => (zE2 (¬ zHere σ x9) (zNot σ (pn x9) ∨ zIsGrp σ x9 41) = 0 ∧ v = some (.int 0) ∧ zCl B x tb ev A (zu (zu σ 3 (pn x9) x9) 2 (pn x9) x9) [] 0 m0 G9) ∨ (zE2 (¬ zHere σ x9) (zNot σ (pn x9) ∨ zIsGrp σ x9 41) = 1 ∧ v = some (.int (-30)) ∧ G9 = G) ∨ (zE2 (¬ zHere σ x9) (zNot σ (pn x9) ∨ zIsGrp σ x9 41) = 2 ∧ v = some (.int (-10)) ∧ G9 = G)) (fun _ => False) := by
  refine zxMet_ofH (cc := cL_begins) (maxL := 3) (ret := (some .int)) (hh := [(0, 5, 6, 14), (0, 5, 10, 16)]) (by decide) rfl (Nat.le_of_ble_eq_true rfl) ?_
  intro p e s m args below meth c C htb h8
  refine zz_aload_n (pc := 0) C dL_begins_0 rfl ?_
  refine zz_iload_n (pc := 1) C dL_begins_1 rfl ?_
  refine zzx_callS (pc := 2) C h8 (c_L_begun l hl D (B := B) (G := G) hC ) gL_begins_L_begun rfl 2 (by decide +kernel) ⟨Nat.le_of_ble_eq_true rfl, Nat.le_of_ble_eq_true rfl⟩ rfl dL_begins_2 rfl (Nat.le_of_ble_eq_true rfl) rfl ⟨Nat.le_of_ble_eq_true rfl, Nat.le_of_ble_eq_true rfl⟩ (fun E hE => ?_) ?_
  · skip
    rcases hE with ⟨h1, rfl⟩ | ⟨h1, rfl⟩
    · skip
      refine zzx_catch (pc := 2) (name := "java/lang/IndexOutOfBoundsException") C (tableOf []) (⟨0, 5, 6, 14⟩ : ExceptionTableEntry) (tableOf [(0, 5, 10, 16)]) (htb.trans rfl) ?_ rfl (by decide) (C.ts kl_L_begins_14) (zFace_moved (zFaces_ok _ (zIn_face (by decide))) (Vm.Alike.refl s.vm) (h8.2.2.2.1 _ (zIn_face (by decide)))) (fun qq => ?_)
      · exact fun z hz => absurd hz List.not_mem_nil
      · skip
        refine zz_astore_n (pc := 6) C dL_begins_6 (Nat.le_of_ble_eq_true rfl) ?_
        refine zz_bipush (pc := 7) C (v := -30) (by decide) dL_begins_7 ?_
        exact zzx_ret (zz_ireturn (pc := 9) C dL_begins_9 rfl (Nat.le_of_ble_eq_true rfl) (Nat.le_of_ble_eq_true rfl) (Or.inr (Or.inl (⟨h1, rfl, rfl⟩))))
    · skip
      refine zzx_catch (pc := 2) (name := "java/lang/IllegalStateException") C (tableOf [(0, 5, 6, 14)]) (⟨0, 5, 10, 16⟩ : ExceptionTableEntry) (tableOf []) (htb.trans rfl) ?_ rfl (by decide) (C.ts kl_L_begins_16) (zFace_moved (zFaces_ok _ (zIn_face (by decide))) (Vm.Alike.refl s.vm) (h8.2.2.2.1 _ (zIn_face (by decide)))) (fun qq => ?_)
      · intro z hz; rcases List.mem_singleton.mp hz with rfl; exact Or.inr ⟨by decide, "java/lang/IndexOutOfBoundsException", C.ts kl_L_begins_14, h8.2.2.2.2.1 _ (by decide) _ (by decide) (by decide)⟩
      · skip
        refine zz_astore_n (pc := 10) C dL_begins_10 (Nat.le_of_ble_eq_true rfl) ?_
        refine zz_bipush (pc := 11) C (v := -10) (by decide) dL_begins_11 ?_
        exact zzx_ret (zz_ireturn (pc := 13) C dL_begins_13 rfl (Nat.le_of_ble_eq_true rfl) (Nat.le_of_ble_eq_true rfl) (Or.inr (Or.inr (⟨h1, rfl, rfl⟩))))
  rintro v G9 ⟨hth, rfl, hC1⟩
  exact zzx_ret (zz_ireturn (pc := 5) C dL_begins_5 rfl (Nat.le_of_ble_eq_true rfl) (Nat.le_of_ble_eq_true rfl) (Or.inl ⟨hth, rfl, hC1⟩))
theorem kl_L_setsGroup_14 : Cond.classLink RL 14 "java/lang/IndexOutOfBoundsException" ∈ wsL_setsGroup := by decide +kernel
theorem kl_L_setsGroup_31 : Cond.classLink RL 31 "java/lang/IllegalArgumentException" ∈ wsL_setsGroup := by decide +kernel
theorem kl_L_setsGroup_16 : Cond.classLink RL 16 "java/lang/IllegalStateException" ∈ wsL_setsGroup := by decide +kernel
set_option maxHeartbeats 4000000 in
set_option maxRecDepth 100000 in
theorem c_L_setsGroup (l : Launch) (hl : l.stackTraces = false) (D : va_G) {B G : zG} {x tb ev : Nat} {A : Nat → Nat} {σ : zS} {m0 : Nat} {x9 t9 g9 : Int32} (hC : zCl B x tb ev A σ [] 0 m0 G) (hW : zWf σ) : zxMet D l yL_setsGroup wsL_setsGroup ({ frames := 9, cells := 5, slots := 30, locals := 158 } : Room) [.ref x, .int x9, .int t9, .int g9] G (fun v G9 => (zE3 (¬ zHere σ x9 ∨ ¬ zHere σ t9) (g9 < 1 ∨ (40 : Int32) < g9) (zNot σ (pn x9) ∨ ¬ zPoss σ (pn x9) (pn t9) g9) = 0 ∧ v = some (.int (σ 2 (pn t9))) ∧ zCl B x tb ev A (zu σ 2 (pn t9) g9) [] 0 m0 G9) ∨ (zE3 (¬ zHere σ x9 ∨ ¬ zHere σ t9) (g9 < 1 ∨ (40 : Int32) < g9) (zNot σ (pn x9) ∨ ¬ zPoss σ (pn x9) (pn t9) g9) = 1 ∧ v = some (.int (-30)) ∧ G9 = G) ∨ (zE3 (¬ zHere σ x9 ∨ ¬ zHere σ t9) (g9 < 1 ∨ (40 : Int32) < g9) (zNot σ (pn x9) ∨ ¬ zPoss σ (pn x9) (pn t9) g9) = 2 ∧ v = some (.int (-20)) ∧ G9 = G) ∨ (zE3 (¬ zHere σ x9 ∨ ¬ zHere σ t9) (g9 < 1 ∨ (40 : Int32) < g9) (zNot σ (pn x9) ∨ ¬ zPoss σ (pn x9) (pn t9) g9) = 3 ∧ v = some (.int (-10)) ∧ G9 = G)) (fun _ => False) := by
  refine zxMet_ofH (cc := cL_setsGroup) (maxL := 5) (ret := (some .int)) (hh := [(0, 7, 8, 14), (0, 7, 13, 31), (0, 7, 18, 16)]) (by decide) rfl (Nat.le_of_ble_eq_true rfl) ?_
  intro p e s m args below meth c C htb h8
  refine zz_aload_n (pc := 0) C dL_setsGroup_0 rfl ?_
  refine zz_iload_n (pc := 1) C dL_setsGroup_1 rfl ?_
  refine zz_iload_n (pc := 2) C dL_setsGroup_2 rfl ?_
  refine zz_iload_n (pc := 3) C dL_setsGroup_3 rfl ?_
  refine zzx_callV (pc := 4) C h8 (c_X2_setGroup l hl D (B := B) (G := G) hC hW) gL_setsGroup_X2_setGroup rfl 3 (by decide +kernel) ⟨Nat.le_of_ble_eq_true rfl, Nat.le_of_ble_eq_true rfl⟩ hC.x (ci := 2) rfl rfl rfl dL_setsGroup_4 rfl (Nat.le_of_ble_eq_true rfl) rfl ⟨Nat.le_of_ble_eq_true rfl, Nat.le_of_ble_eq_true rfl⟩ (fun E hE => ?_) ?_
  · skip
    rcases hE with ⟨h1, rfl⟩ | ⟨h1, rfl⟩ | ⟨h1, rfl⟩
    · skip
      refine zzx_catch (pc := 4) (name := "java/lang/IndexOutOfBoundsException") C (tableOf []) (⟨0, 7, 8, 14⟩ : ExceptionTableEntry) (tableOf [(0, 7, 13, 31), (0, 7, 18, 16)]) (htb.trans rfl) ?_ rfl (by decide) (C.ts kl_L_setsGroup_14) (zFace_moved (zFaces_ok _ (zIn_face (by decide))) (Vm.Alike.refl s.vm) (h8.2.2.2.1 _ (zIn_face (by decide)))) (fun qq => ?_)
      · exact fun z hz => absurd hz List.not_mem_nil
      · skip
        refine zz_astore (pc := 8) C dL_setsGroup_8 (Nat.le_of_ble_eq_true rfl) ?_
        refine zz_bipush (pc := 10) C (v := -30) (by decide) dL_setsGroup_10 ?_
        exact zzx_ret (zz_ireturn (pc := 12) C dL_setsGroup_12 rfl (Nat.le_of_ble_eq_true rfl) (Nat.le_of_ble_eq_true rfl) (Or.inr (Or.inl (⟨h1, rfl, rfl⟩))))
    · skip
      refine zzx_catch (pc := 4) (name := "java/lang/IllegalArgumentException") C (tableOf [(0, 7, 8, 14)]) (⟨0, 7, 13, 31⟩ : ExceptionTableEntry) (tableOf [(0, 7, 18, 16)]) (htb.trans rfl) ?_ rfl (by decide) (C.ts kl_L_setsGroup_31) (zFace_moved (zFaces_ok _ (zIn_face (by decide))) (Vm.Alike.refl s.vm) (h8.2.2.2.1 _ (zIn_face (by decide)))) (fun qq => ?_)
      · intro z hz; rcases List.mem_singleton.mp hz with rfl; exact Or.inr ⟨by decide, "java/lang/IndexOutOfBoundsException", C.ts kl_L_setsGroup_14, h8.2.2.2.2.1 _ (by decide) _ (by decide) (by decide)⟩
      · skip
        refine zz_astore (pc := 13) C dL_setsGroup_13 (Nat.le_of_ble_eq_true rfl) ?_
        refine zz_bipush (pc := 15) C (v := -20) (by decide) dL_setsGroup_15 ?_
        exact zzx_ret (zz_ireturn (pc := 17) C dL_setsGroup_17 rfl (Nat.le_of_ble_eq_true rfl) (Nat.le_of_ble_eq_true rfl) (Or.inr (Or.inr (Or.inl (⟨h1, rfl, rfl⟩)))))
    · skip
      refine zzx_catch (pc := 4) (name := "java/lang/IllegalStateException") C (tableOf [(0, 7, 8, 14), (0, 7, 13, 31)]) (⟨0, 7, 18, 16⟩ : ExceptionTableEntry) (tableOf []) (htb.trans rfl) ?_ rfl (by decide) (C.ts kl_L_setsGroup_16) (zFace_moved (zFaces_ok _ (zIn_face (by decide))) (Vm.Alike.refl s.vm) (h8.2.2.2.1 _ (zIn_face (by decide)))) (fun qq => ?_)
      · intro z hz; rcases List.mem_cons.mp hz with rfl | hz; exact Or.inr ⟨by decide, "java/lang/IndexOutOfBoundsException", C.ts kl_L_setsGroup_14, h8.2.2.2.2.1 _ (by decide) _ (by decide) (by decide)⟩; rcases List.mem_singleton.mp hz with rfl; exact Or.inr ⟨by decide, "java/lang/IllegalArgumentException", C.ts kl_L_setsGroup_31, h8.2.2.2.2.1 _ (by decide) _ (by decide) (by decide)⟩
      · skip
        refine zz_astore (pc := 18) C dL_setsGroup_18 (Nat.le_of_ble_eq_true rfl) ?_
        refine zz_bipush (pc := 20) C (v := -10) (by decide) dL_setsGroup_20 ?_
        exact zzx_ret (zz_ireturn (pc := 22) C dL_setsGroup_22 rfl (Nat.le_of_ble_eq_true rfl) (Nat.le_of_ble_eq_true rfl) (Or.inr (Or.inr (Or.inr (⟨h1, rfl, rfl⟩)))))
  rintro v G9 ⟨hth, rfl, hC1⟩
  exact zzx_ret (zz_ireturn (pc := 7) C dL_setsGroup_7 rfl (Nat.le_of_ble_eq_true rfl) (Nat.le_of_ble_eq_true rfl) (Or.inl ⟨hth, rfl, hC1⟩))
