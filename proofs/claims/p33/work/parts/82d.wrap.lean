theorem kl_L_setsReaper_14 : Cond.classLink RL 14 "java/lang/IndexOutOfBoundsException" ∈ wsL_setsReaper := by decide +kernel
theorem kl_L_setsReaper_16 : Cond.classLink RL 16 "java/lang/IllegalStateException" ∈ wsL_setsReaper := by decide +kernel
set_option maxHeartbeats 4000000 in
set_option maxRecDepth 100000 in
theorem c_L_setsReaper (l : Launch) (hl : l.stackTraces = false) (D : va_G) {B G : zG} {x tb ev : Nat} {A : Nat → Nat} {σ : zS} {m0 : Nat} {x9 f9 : Int32} (hC : zCl B x tb ev A σ [] 0 m0 G) (hW : zWf σ) (hf9 : f9 = 0 ∨ f9 = 1) : zxMet D l yL_setsReaper wsL_setsReaper ({ frames := 8, cells := 2, slots := 12, locals := 136 } : Room) [.ref x, .int x9, .int f9] G (fun v G9 => (zE2 (¬ zHere σ x9) (zNot σ (pn x9)) = 0 ∧ v = some (.int (if (σ 13 (pn x9)) = 0 then (0 : Int32) else 1)) ∧ zCl B x tb ev A (zu σ 13 (pn x9) f9) [] 0 m0 G9) ∨ (zE2 (¬ zHere σ x9) (zNot σ (pn x9)) = 1 ∧ v = some (.int (-30)) ∧ G9 = G) ∨ (zE2 (¬ zHere σ x9) (zNot σ (pn x9)) = 2 ∧ v = some (.int (-10)) ∧ G9 = G)) (fun _ => False) := by
  refine zxMet_ofH (cc := cL_setsReaper) (maxL := 4) (ret := (some .int)) (hh := [(0, 14, 15, 14), (0, 14, 19, 16)]) (by decide) rfl (Nat.le_of_ble_eq_true rfl) ?_
  intro p e s m args below meth c C htb h8
  refine zz_aload_n (pc := 0) C dL_setsReaper_0 rfl ?_
  refine zz_iload_n (pc := 1) C dL_setsReaper_1 rfl ?_
  refine zz_iload_n (pc := 2) C dL_setsReaper_2 rfl ?_
  refine zzx_callV (pc := 3) C h8 (c_X2_setReaper l hl D (B := B) (G := G) hC hW hf9) gL_setsReaper_X2_setReaper rfl 2 (by decide +kernel) ⟨Nat.le_of_ble_eq_true rfl, Nat.le_of_ble_eq_true rfl⟩ hC.x (ci := 2) rfl rfl rfl dL_setsReaper_3 rfl (Nat.le_of_ble_eq_true rfl) rfl ⟨Nat.le_of_ble_eq_true rfl, Nat.le_of_ble_eq_true rfl⟩ (fun E hE => ?_) ?_
  · skip
    rcases hE with ⟨h1, rfl⟩ | ⟨h1, rfl⟩
    · skip
      refine zzx_catch (pc := 3) (name := "java/lang/IndexOutOfBoundsException") C (tableOf []) (⟨0, 14, 15, 14⟩ : ExceptionTableEntry) (tableOf [(0, 14, 19, 16)]) (htb.trans rfl) ?_ rfl (by decide) (C.ts kl_L_setsReaper_14) (zFace_moved (zFaces_ok _ (zIn_face (by decide))) (Vm.Alike.refl s.vm) (h8.2.2.2.1 _ (zIn_face (by decide)))) (fun qq => ?_)
      · exact fun z hz => absurd hz List.not_mem_nil
      · skip
        refine zz_astore_n (pc := 15) C dL_setsReaper_15 (Nat.le_of_ble_eq_true rfl) ?_
        refine zz_bipush (pc := 16) C (v := -30) (by decide) dL_setsReaper_16 ?_
        exact zzx_ret (zz_ireturn (pc := 18) C dL_setsReaper_18 rfl (Nat.le_of_ble_eq_true rfl) (Nat.le_of_ble_eq_true rfl) (Or.inr (Or.inl (⟨h1, rfl, rfl⟩))))
    · skip
      refine zzx_catch (pc := 3) (name := "java/lang/IllegalStateException") C (tableOf [(0, 14, 15, 14)]) (⟨0, 14, 19, 16⟩ : ExceptionTableEntry) (tableOf []) (htb.trans rfl) ?_ rfl (by decide) (C.ts kl_L_setsReaper_16) (zFace_moved (zFaces_ok _ (zIn_face (by decide))) (Vm.Alike.refl s.vm) (h8.2.2.2.1 _ (zIn_face (by decide)))) (fun qq => ?_)
      · intro z hz; rcases List.mem_singleton.mp hz with rfl; exact Or.inr ⟨by decide, "java/lang/IndexOutOfBoundsException", C.ts kl_L_setsReaper_14, h8.2.2.2.2.1 _ (by decide) _ (by decide) (by decide)⟩
      · skip
        refine zz_astore_n (pc := 19) C dL_setsReaper_19 (Nat.le_of_ble_eq_true rfl) ?_
        refine zz_bipush (pc := 20) C (v := -10) (by decide) dL_setsReaper_20 ?_
        exact zzx_ret (zz_ireturn (pc := 22) C dL_setsReaper_22 rfl (Nat.le_of_ble_eq_true rfl) (Nat.le_of_ble_eq_true rfl) (Or.inr (Or.inr (⟨h1, rfl, rfl⟩))))
  rintro v G9 ⟨hth, rfl, hC1⟩
  refine zz_if_eq (pc := 6) C (tgt := 13) dL_setsReaper_6 (by decide) (fun hc6 => ?_) (fun hc6 => ?_)
  · refine zz_iconst (pc := 13) C (v := 0) (by decide) dL_setsReaper_13 ?_
    exact zzx_ret (zz_ireturn (pc := 14) C dL_setsReaper_14 rfl (Nat.le_of_ble_eq_true rfl) (Nat.le_of_ble_eq_true rfl) (Or.inl ⟨hth, (by rw [if_pos hc6]), hC1⟩))
  · refine zz_iconst (pc := 9) C (v := 1) (by decide) dL_setsReaper_9 ?_
    refine zz_goto (pc := 10) C (tgt := 14) dL_setsReaper_10 (by decide) ?_
    exact zzx_ret (zz_ireturn (pc := 14) C dL_setsReaper_14 rfl (Nat.le_of_ble_eq_true rfl) (Nat.le_of_ble_eq_true rfl) (Or.inl ⟨hth, (by rw [if_neg hc6]), hC1⟩))
set_option maxHeartbeats 4000000 in
set_option maxRecDepth 100000 in
theorem c_L_opened (l : Launch) (hl : l.stackTraces = false) (D : va_G) {B G : zG} {x tb ev : Nat} {A : Nat → Nat} {σ : zS} {m0 : Nat} {x9 : Int32} (hC : zCl B x tb ev A σ [] 0 m0 G)  : zxMet D l yL_opened wsL_opened ({ frames := 8, cells := 3, slots := 18, locals := 134 } : Room) [.ref x, .int x9] G (fun v G9 => zE2 (¬ zHere σ x9) (zNot σ (pn x9) ∨ σ 3 (pn x9) ≠ x9 ∨ σ 21 0 ≠ -1) = 0 ∧ v = some (.int 0) ∧ zCl B x tb ev A (zu (zu σ 21 0 x9) 22 0 (σ 2 (pn x9))) [] 0 m0 G9) (fun E => (zE2 (¬ zHere σ x9) (zNot σ (pn x9) ∨ σ 3 (pn x9) ≠ x9 ∨ σ 21 0 ≠ -1) = 1 ∧ E = "java/lang/IndexOutOfBoundsException") ∨ (zE2 (¬ zHere σ x9) (zNot σ (pn x9) ∨ σ 3 (pn x9) ≠ x9 ∨ σ 21 0 ≠ -1) = 2 ∧ E = "java/lang/IllegalStateException")) := by
  refine zxMet_of (cc := cL_opened) (maxL := 2) (ret := (some .int)) (by decide) rfl (Nat.le_of_ble_eq_true rfl) ?_
  intro p e s m args below meth c C hnx h8
  refine zz_aload_n (pc := 0) C dL_opened_0 rfl ?_
  refine zz_iload_n (pc := 1) C dL_opened_1 rfl ?_
  refine zzx_callV (pc := 2) C h8 (c_X2_openTerminal l hl D (B := B) (G := G) hC ) gL_opened_X2_openTerminal rfl 1 (by decide +kernel) ⟨Nat.le_of_ble_eq_true rfl, Nat.le_of_ble_eq_true rfl⟩ hC.x (ci := 2) rfl rfl rfl dL_opened_2 rfl (Nat.le_of_ble_eq_true rfl) rfl ⟨Nat.le_of_ble_eq_true rfl, Nat.le_of_ble_eq_true rfl⟩ (fun E hE => zzx_out C hnx hE (Nat.le_of_ble_eq_true rfl) (Nat.le_of_ble_eq_true rfl)) ?_
  rintro v G9 ⟨hth, rfl, hC1⟩
  refine zz_iconst (pc := 5) C (v := 0) (by decide) dL_opened_5 ?_
  exact zzx_ret (zz_ireturn (pc := 6) C dL_opened_6 rfl (Nat.le_of_ble_eq_true rfl) (Nat.le_of_ble_eq_true rfl) ⟨hth, rfl, hC1⟩)
theorem kl_L_opens_14 : Cond.classLink RL 14 "java/lang/IndexOutOfBoundsException" ∈ wsL_opens := by decide +kernel
theorem kl_L_opens_16 : Cond.classLink RL 16 "java/lang/IllegalStateException" ∈ wsL_opens := by decide +kernel
set_option maxHeartbeats 4000000 in
set_option maxRecDepth 100000 in
theorem c_L_opens (l : Launch) (hl : l.stackTraces = false) (D : va_G) {B G : zG} {x tb ev : Nat} {A : Nat → Nat} {σ : zS} {m0 : Nat} {x9 : Int32} (hC : zCl B x tb ev A σ [] 0 m0 G)  : zxMet D l yL_opens wsL_opens ({ frames := 9, cells := 3, slots := 18, locals := 155 } : Room) [.ref x, .int x9] G (fun v G9 => (zE2 (¬ zHere σ x9) (zNot σ (pn x9) ∨ σ 3 (pn x9) ≠ x9 ∨ σ 21 0 ≠ -1) = 0 ∧ v = some (.int 0) ∧ zCl B x tb ev A (zu (zu σ 21 0 x9) 22 0 (σ 2 (pn x9))) [] 0 m0 G9) ∨ (zE2 (¬ zHere σ x9) (zNot σ (pn x9) ∨ σ 3 (pn x9) ≠ x9 ∨ σ 21 0 ≠ -1) = 1 ∧ v = some (.int (-30)) ∧ G9 = G) ∨ (zE2 (¬ zHere σ x9) (zNot σ (pn x9) ∨ σ 3 (pn x9) ≠ x9 ∨ σ 21 0 ≠ -1) = 2 ∧ v = some (.int (-10)) ∧ G9 = G)) (fun _ => False) := by
  refine zxMet_ofH (cc := cL_opens) (maxL := 3) (ret := (some .int)) (hh := [(0, 5, 6, 14), (0, 5, 10, 16)]) (by decide) rfl (Nat.le_of_ble_eq_true rfl) ?_
  intro p e s m args below meth c C htb h8
  refine zz_aload_n (pc := 0) C dL_opens_0 rfl ?_
  refine zz_iload_n (pc := 1) C dL_opens_1 rfl ?_
  refine zzx_callS (pc := 2) C h8 (c_L_opened l hl D (B := B) (G := G) hC ) gL_opens_L_opened rfl 2 (by decide +kernel) ⟨Nat.le_of_ble_eq_true rfl, Nat.le_of_ble_eq_true rfl⟩ rfl dL_opens_2 rfl (Nat.le_of_ble_eq_true rfl) rfl ⟨Nat.le_of_ble_eq_true rfl, Nat.le_of_ble_eq_true rfl⟩ (fun E hE => ?_) ?_
  · skip
    rcases hE with ⟨h1, rfl⟩ | ⟨h1, rfl⟩
    · skip
      refine zzx_catch (pc := 2) (name := "java/lang/IndexOutOfBoundsException") C (tableOf []) (⟨0, 5, 6, 14⟩ : ExceptionTableEntry) (tableOf [(0, 5, 10, 16)]) (htb.trans rfl) ?_ rfl (by decide) (C.ts kl_L_opens_14) (zFace_moved (zFaces_ok _ (zIn_face (by decide))) (Vm.Alike.refl s.vm) (h8.2.2.2.1 _ (zIn_face (by decide)))) (fun qq => ?_)
      · exact fun z hz => absurd hz List.not_mem_nil
      · skip
        refine zz_astore_n (pc := 6) C dL_opens_6 (Nat.le_of_ble_eq_true rfl) ?_
        refine zz_bipush (pc := 7) C (v := -30) (by decide) dL_opens_7 ?_
        exact zzx_ret (zz_ireturn (pc := 9) C dL_opens_9 rfl (Nat.le_of_ble_eq_true rfl) (Nat.le_of_ble_eq_true rfl) (Or.inr (Or.inl (⟨h1, rfl, rfl⟩))))
    · skip
      refine zzx_catch (pc := 2) (name := "java/lang/IllegalStateException") C (tableOf [(0, 5, 6, 14)]) (⟨0, 5, 10, 16⟩ : ExceptionTableEntry) (tableOf []) (htb.trans rfl) ?_ rfl (by decide) (C.ts kl_L_opens_16) (zFace_moved (zFaces_ok _ (zIn_face (by decide))) (Vm.Alike.refl s.vm) (h8.2.2.2.1 _ (zIn_face (by decide)))) (fun qq => ?_)
      · intro z hz; rcases List.mem_singleton.mp hz with rfl; exact Or.inr ⟨by decide, "java/lang/IndexOutOfBoundsException", C.ts kl_L_opens_14, h8.2.2.2.2.1 _ (by decide) _ (by decide) (by decide)⟩
      · skip
        refine zz_astore_n (pc := 10) C dL_opens_10 (Nat.le_of_ble_eq_true rfl) ?_
        refine zz_bipush (pc := 11) C (v := -10) (by decide) dL_opens_11 ?_
        exact zzx_ret (zz_ireturn (pc := 13) C dL_opens_13 rfl (Nat.le_of_ble_eq_true rfl) (Nat.le_of_ble_eq_true rfl) (Or.inr (Or.inr (⟨h1, rfl, rfl⟩))))
  rintro v G9 ⟨hth, rfl, hC1⟩
  exact zzx_ret (zz_ireturn (pc := 5) C dL_opens_5 rfl (Nat.le_of_ble_eq_true rfl) (Nat.le_of_ble_eq_true rfl) (Or.inl ⟨hth, rfl, hC1⟩))
theorem kl_L_setsForeground_14 : Cond.classLink RL 14 "java/lang/IndexOutOfBoundsException" ∈ wsL_setsForeground := by decide +kernel
theorem kl_L_setsForeground_31 : Cond.classLink RL 31 "java/lang/IllegalArgumentException" ∈ wsL_setsForeground := by decide +kernel
theorem kl_L_setsForeground_16 : Cond.classLink RL 16 "java/lang/IllegalStateException" ∈ wsL_setsForeground := by decide +kernel
set_option maxHeartbeats 4000000 in
set_option maxRecDepth 100000 in
theorem c_L_setsForeground (l : Launch) (hl : l.stackTraces = false) (D : va_G) {B G : zG} {x tb ev : Nat} {A : Nat → Nat} {σ : zS} {m0 : Nat} {x9 g9 : Int32} (hC : zCl B x tb ev A σ [] 0 m0 G)  : zxMet D l yL_setsForeground wsL_setsForeground ({ frames := 9, cells := 4, slots := 24, locals := 156 } : Room) [.ref x, .int x9, .int g9] G (fun v G9 => (zE3 (¬ zHere σ x9) (g9 < 1 ∨ (40 : Int32) < g9) (zNot σ (pn x9) ∨ σ 3 (pn x9) ≠ σ 21 0 ∨ ¬ zIsIn σ g9 (σ 3 (pn x9)) 41) = 0 ∧ v = some (.int (σ 22 0)) ∧ zCl B x tb ev A (zu σ 22 0 g9) [] 0 m0 G9) ∨ (zE3 (¬ zHere σ x9) (g9 < 1 ∨ (40 : Int32) < g9) (zNot σ (pn x9) ∨ σ 3 (pn x9) ≠ σ 21 0 ∨ ¬ zIsIn σ g9 (σ 3 (pn x9)) 41) = 1 ∧ v = some (.int (-30)) ∧ G9 = G) ∨ (zE3 (¬ zHere σ x9) (g9 < 1 ∨ (40 : Int32) < g9) (zNot σ (pn x9) ∨ σ 3 (pn x9) ≠ σ 21 0 ∨ ¬ zIsIn σ g9 (σ 3 (pn x9)) 41) = 2 ∧ v = some (.int (-20)) ∧ G9 = G) ∨ (zE3 (¬ zHere σ x9) (g9 < 1 ∨ (40 : Int32) < g9) (zNot σ (pn x9) ∨ σ 3 (pn x9) ≠ σ 21 0 ∨ ¬ zIsIn σ g9 (σ 3 (pn x9)) 41) = 3 ∧ v = some (.int (-10)) ∧ G9 = G)) (fun _ => False) := by
  refine zxMet_ofH (cc := cL_setsForeground) (maxL := 4) (ret := (some .int)) (hh := [(0, 6, 7, 14), (0, 6, 11, 31), (0, 6, 15, 16)]) (by decide) rfl (Nat.le_of_ble_eq_true rfl) ?_
  intro p e s m args below meth c C htb h8
  refine zz_aload_n (pc := 0) C dL_setsForeground_0 rfl ?_
  refine zz_iload_n (pc := 1) C dL_setsForeground_1 rfl ?_
  refine zz_iload_n (pc := 2) C dL_setsForeground_2 rfl ?_
  refine zzx_callV (pc := 3) C h8 (c_X2_setForeground l hl D (B := B) (G := G) hC ) gL_setsForeground_X2_setForeground rfl 2 (by decide +kernel) ⟨Nat.le_of_ble_eq_true rfl, Nat.le_of_ble_eq_true rfl⟩ hC.x (ci := 2) rfl rfl rfl dL_setsForeground_3 rfl (Nat.le_of_ble_eq_true rfl) rfl ⟨Nat.le_of_ble_eq_true rfl, Nat.le_of_ble_eq_true rfl⟩ (fun E hE => ?_) ?_
  · skip
    rcases hE with ⟨h1, rfl⟩ | ⟨h1, rfl⟩ | ⟨h1, rfl⟩
    · skip
      refine zzx_catch (pc := 3) (name := "java/lang/IndexOutOfBoundsException") C (tableOf []) (⟨0, 6, 7, 14⟩ : ExceptionTableEntry) (tableOf [(0, 6, 11, 31), (0, 6, 15, 16)]) (htb.trans rfl) ?_ rfl (by decide) (C.ts kl_L_setsForeground_14) (zFace_moved (zFaces_ok _ (zIn_face (by decide))) (Vm.Alike.refl s.vm) (h8.2.2.2.1 _ (zIn_face (by decide)))) (fun qq => ?_)
      · exact fun z hz => absurd hz List.not_mem_nil
      · skip
        refine zz_astore_n (pc := 7) C dL_setsForeground_7 (Nat.le_of_ble_eq_true rfl) ?_
        refine zz_bipush (pc := 8) C (v := -30) (by decide) dL_setsForeground_8 ?_
        exact zzx_ret (zz_ireturn (pc := 10) C dL_setsForeground_10 rfl (Nat.le_of_ble_eq_true rfl) (Nat.le_of_ble_eq_true rfl) (Or.inr (Or.inl (⟨h1, rfl, rfl⟩))))
    · skip
      refine zzx_catch (pc := 3) (name := "java/lang/IllegalArgumentException") C (tableOf [(0, 6, 7, 14)]) (⟨0, 6, 11, 31⟩ : ExceptionTableEntry) (tableOf [(0, 6, 15, 16)]) (htb.trans rfl) ?_ rfl (by decide) (C.ts kl_L_setsForeground_31) (zFace_moved (zFaces_ok _ (zIn_face (by decide))) (Vm.Alike.refl s.vm) (h8.2.2.2.1 _ (zIn_face (by decide)))) (fun qq => ?_)
      · intro z hz; rcases List.mem_singleton.mp hz with rfl; exact Or.inr ⟨by decide, "java/lang/IndexOutOfBoundsException", C.ts kl_L_setsForeground_14, h8.2.2.2.2.1 _ (by decide) _ (by decide) (by decide)⟩
      · skip
        refine zz_astore_n (pc := 11) C dL_setsForeground_11 (Nat.le_of_ble_eq_true rfl) ?_
        refine zz_bipush (pc := 12) C (v := -20) (by decide) dL_setsForeground_12 ?_
        exact zzx_ret (zz_ireturn (pc := 14) C dL_setsForeground_14 rfl (Nat.le_of_ble_eq_true rfl) (Nat.le_of_ble_eq_true rfl) (Or.inr (Or.inr (Or.inl (⟨h1, rfl, rfl⟩)))))
    · skip
      refine zzx_catch (pc := 3) (name := "java/lang/IllegalStateException") C (tableOf [(0, 6, 7, 14), (0, 6, 11, 31)]) (⟨0, 6, 15, 16⟩ : ExceptionTableEntry) (tableOf []) (htb.trans rfl) ?_ rfl (by decide) (C.ts kl_L_setsForeground_16) (zFace_moved (zFaces_ok _ (zIn_face (by decide))) (Vm.Alike.refl s.vm) (h8.2.2.2.1 _ (zIn_face (by decide)))) (fun qq => ?_)
      · intro z hz; rcases List.mem_cons.mp hz with rfl | hz; exact Or.inr ⟨by decide, "java/lang/IndexOutOfBoundsException", C.ts kl_L_setsForeground_14, h8.2.2.2.2.1 _ (by decide) _ (by decide) (by decide)⟩; rcases List.mem_singleton.mp hz with rfl; exact Or.inr ⟨by decide, "java/lang/IllegalArgumentException", C.ts kl_L_setsForeground_31, h8.2.2.2.2.1 _ (by decide) _ (by decide) (by decide)⟩
      · skip
        refine zz_astore_n (pc := 15) C dL_setsForeground_15 (Nat.le_of_ble_eq_true rfl) ?_
        refine zz_bipush (pc := 16) C (v := -10) (by decide) dL_setsForeground_16 ?_
        exact zzx_ret (zz_ireturn (pc := 18) C dL_setsForeground_18 rfl (Nat.le_of_ble_eq_true rfl) (Nat.le_of_ble_eq_true rfl) (Or.inr (Or.inr (Or.inr (⟨h1, rfl, rfl⟩)))))
  rintro v G9 ⟨hth, rfl, hC1⟩
  exact zzx_ret (zz_ireturn (pc := 6) C dL_setsForeground_6 rfl (Nat.le_of_ble_eq_true rfl) (Nat.le_of_ble_eq_true rfl) (Or.inl ⟨hth, rfl, hC1⟩))
