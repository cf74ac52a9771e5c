/-! the law's wrappers -/
theorem zIn_face {X : String} (h : X ∈ zCls3) : Cond.castable X X ∈ zFaces := List.mem_append_left _ (List.mem_map.mpr ⟨X, h, rfl⟩)
theorem kl_L_forks_14 : Cond.classLink RL 14 "java/lang/IndexOutOfBoundsException" ∈ wsL_forks := by decide +kernel
theorem kl_L_forks_16 : Cond.classLink RL 16 "java/lang/IllegalStateException" ∈ wsL_forks := by decide +kernel
set_option maxHeartbeats 4000000 in
set_option maxRecDepth 100000 in
theorem c_L_forks (l : Launch) (hl : l.stackTraces = false) (D : va_G) {B G : zG} {x tb ev : Nat} {A : Nat → Nat} {σ : zS} {m0 : Nat} {x9 : Int32} (hC : zCl B x tb ev A σ [] 0 m0 G) (hW : zWf σ) : zxMet D l yL_forks wsL_forks ({ frames := 8, cells := 3, slots := 40, locals := 136 } : Room) [.ref x, .int x9] G (fun v G9 => (zE2 (¬ zHere σ x9) (¬ zRunN σ (pn x9) ∨ zFreeV σ = -1) = 0 ∧ v = some (.int (zFreeV σ)) ∧ ∃ A9 : Nat → Nat, zCl B x tb ev A9 (zFork σ x9 (pn (zFreeV σ))) [] 0 m0 G9) ∨ (zE2 (¬ zHere σ x9) (¬ zRunN σ (pn x9) ∨ zFreeV σ = -1) = 1 ∧ v = some (.int (-30)) ∧ G9 = G) ∨ (zE2 (¬ zHere σ x9) (¬ zRunN σ (pn x9) ∨ zFreeV σ = -1) = 2 ∧ v = some (.int (-10)) ∧ G9 = G)) (fun _ => False) := by
  refine zxMet_ofH (cc := cL_forks) (maxL := 3) (ret := (some .int)) (hh := [(0, 5, 6, 14), (0, 5, 10, 16)]) (by decide) rfl (Nat.le_of_ble_eq_true rfl) ?_
  intro p e s m args below meth c C htb h8
  refine zz_aload_n (pc := 0) C dL_forks_0 rfl ?_
  refine zz_iload_n (pc := 1) C dL_forks_1 rfl ?_
  refine zzx_callV (pc := 2) C h8 (c_X2_fork l hl D (B := B) (G := G) hC hW) gL_forks_X2_fork rfl 1 (by decide +kernel) ⟨Nat.le_of_ble_eq_true rfl, Nat.le_of_ble_eq_true rfl⟩ hC.x (ci := 2) rfl rfl rfl dL_forks_2 rfl (Nat.le_of_ble_eq_true rfl) rfl ⟨Nat.le_of_ble_eq_true rfl, Nat.le_of_ble_eq_true rfl⟩ (fun E hE => ?_) ?_
  · skip
    rcases hE with ⟨h1, rfl⟩ | ⟨h1, rfl⟩
    · skip
      refine zzx_catch (pc := 2) (name := "java/lang/IndexOutOfBoundsException") C (tableOf []) (⟨0, 5, 6, 14⟩ : ExceptionTableEntry) (tableOf [(0, 5, 10, 16)]) (htb.trans rfl) ?_ rfl (by decide) (C.ts kl_L_forks_14) (zFace_moved (zFaces_ok _ (zIn_face (by decide))) (Vm.Alike.refl s.vm) (h8.2.2.2.1 _ (zIn_face (by decide)))) (fun qq => ?_)
      · exact fun z hz => absurd hz List.not_mem_nil
      · skip
        refine zz_astore_n (pc := 6) C dL_forks_6 (Nat.le_of_ble_eq_true rfl) ?_
        refine zz_bipush (pc := 7) C (v := -30) (by decide) dL_forks_7 ?_
        exact zzx_ret (zz_ireturn (pc := 9) C dL_forks_9 rfl (Nat.le_of_ble_eq_true rfl) (Nat.le_of_ble_eq_true rfl) (Or.inr (Or.inl (⟨h1, rfl, rfl⟩))))
    · skip
      refine zzx_catch (pc := 2) (name := "java/lang/IllegalStateException") C (tableOf [(0, 5, 6, 14)]) (⟨0, 5, 10, 16⟩ : ExceptionTableEntry) (tableOf []) (htb.trans rfl) ?_ rfl (by decide) (C.ts kl_L_forks_16) (zFace_moved (zFaces_ok _ (zIn_face (by decide))) (Vm.Alike.refl s.vm) (h8.2.2.2.1 _ (zIn_face (by decide)))) (fun qq => ?_)
      · intro z hz; rcases List.mem_singleton.mp hz with rfl; exact Or.inr ⟨by decide, "java/lang/IndexOutOfBoundsException", C.ts kl_L_forks_14, h8.2.2.2.2.1 _ (by decide) _ (by decide) (by decide)⟩
      · skip
        refine zz_astore_n (pc := 10) C dL_forks_10 (Nat.le_of_ble_eq_true rfl) ?_
        refine zz_bipush (pc := 11) C (v := -10) (by decide) dL_forks_11 ?_
        exact zzx_ret (zz_ireturn (pc := 13) C dL_forks_13 rfl (Nat.le_of_ble_eq_true rfl) (Nat.le_of_ble_eq_true rfl) (Or.inr (Or.inr (⟨h1, rfl, rfl⟩))))
  rintro v G9 ⟨hth, rfl, hC1⟩
  exact zzx_ret (zz_ireturn (pc := 5) C dL_forks_5 rfl (Nat.le_of_ble_eq_true rfl) (Nat.le_of_ble_eq_true rfl) (Or.inl ⟨hth, rfl, hC1⟩))
theorem kl_L_execs_14 : Cond.classLink RL 14 "java/lang/IndexOutOfBoundsException" ∈ wsL_execs := by decide +kernel
theorem kl_L_execs_16 : Cond.classLink RL 16 "java/lang/IllegalStateException" ∈ wsL_execs := by decide +kernel
set_option maxHeartbeats 4000000 in
set_option maxRecDepth 100000 in
theorem c_L_execs (l : Launch) (hl : l.stackTraces = false) (D : va_G) {B G : zG} {x tb ev : Nat} {A : Nat → Nat} {σ : zS} {m0 : Nat} {x9 : Int32} (hC : zCl B x tb ev A σ [] 0 m0 G)  : zxMet D l yL_execs wsL_execs ({ frames := 8, cells := 2, slots := 12, locals := 134 } : Room) [.ref x, .int x9] G (fun v G9 => (zE2 (¬ zHere σ x9) (zNot σ (pn x9)) = 0 ∧ v = some (.int (nI (zCatN σ (pn x9) 9))) ∧ zCl B x tb ev A (zExecN σ (pn x9) 9) [] 0 m0 G9) ∨ (zE2 (¬ zHere σ x9) (zNot σ (pn x9)) = 1 ∧ v = some (.int (-30)) ∧ G9 = G) ∨ (zE2 (¬ zHere σ x9) (zNot σ (pn x9)) = 2 ∧ v = some (.int (-10)) ∧ G9 = G)) (fun _ => False) := by
  refine zxMet_ofH (cc := cL_execs) (maxL := 3) (ret := (some .int)) (hh := [(0, 5, 6, 14), (0, 5, 10, 16)]) (by decide) rfl (Nat.le_of_ble_eq_true rfl) ?_
  intro p e s m args below meth c C htb h8
  refine zz_aload_n (pc := 0) C dL_execs_0 rfl ?_
  refine zz_iload_n (pc := 1) C dL_execs_1 rfl ?_
  refine zzx_callV (pc := 2) C h8 (c_X2_exec l hl D (B := B) (G := G) hC ) gL_execs_X2_exec rfl 1 (by decide +kernel) ⟨Nat.le_of_ble_eq_true rfl, Nat.le_of_ble_eq_true rfl⟩ hC.x (ci := 2) rfl rfl rfl dL_execs_2 rfl (Nat.le_of_ble_eq_true rfl) rfl ⟨Nat.le_of_ble_eq_true rfl, Nat.le_of_ble_eq_true rfl⟩ (fun E hE => ?_) ?_
  · skip
    rcases hE with ⟨h1, rfl⟩ | ⟨h1, rfl⟩
    · skip
      refine zzx_catch (pc := 2) (name := "java/lang/IndexOutOfBoundsException") C (tableOf []) (⟨0, 5, 6, 14⟩ : ExceptionTableEntry) (tableOf [(0, 5, 10, 16)]) (htb.trans rfl) ?_ rfl (by decide) (C.ts kl_L_execs_14) (zFace_moved (zFaces_ok _ (zIn_face (by decide))) (Vm.Alike.refl s.vm) (h8.2.2.2.1 _ (zIn_face (by decide)))) (fun qq => ?_)
      · exact fun z hz => absurd hz List.not_mem_nil
      · skip
        refine zz_astore_n (pc := 6) C dL_execs_6 (Nat.le_of_ble_eq_true rfl) ?_
        refine zz_bipush (pc := 7) C (v := -30) (by decide) dL_execs_7 ?_
        exact zzx_ret (zz_ireturn (pc := 9) C dL_execs_9 rfl (Nat.le_of_ble_eq_true rfl) (Nat.le_of_ble_eq_true rfl) (Or.inr (Or.inl (⟨h1, rfl, rfl⟩))))
    · skip
      refine zzx_catch (pc := 2) (name := "java/lang/IllegalStateException") C (tableOf [(0, 5, 6, 14)]) (⟨0, 5, 10, 16⟩ : ExceptionTableEntry) (tableOf []) (htb.trans rfl) ?_ rfl (by decide) (C.ts kl_L_execs_16) (zFace_moved (zFaces_ok _ (zIn_face (by decide))) (Vm.Alike.refl s.vm) (h8.2.2.2.1 _ (zIn_face (by decide)))) (fun qq => ?_)
      · intro z hz; rcases List.mem_singleton.mp hz with rfl; exact Or.inr ⟨by decide, "java/lang/IndexOutOfBoundsException", C.ts kl_L_execs_14, h8.2.2.2.2.1 _ (by decide) _ (by decide) (by decide)⟩
      · skip
        refine zz_astore_n (pc := 10) C dL_execs_10 (Nat.le_of_ble_eq_true rfl) ?_
        refine zz_bipush (pc := 11) C (v := -10) (by decide) dL_execs_11 ?_
        exact zzx_ret (zz_ireturn (pc := 13) C dL_execs_13 rfl (Nat.le_of_ble_eq_true rfl) (Nat.le_of_ble_eq_true rfl) (Or.inr (Or.inr (⟨h1, rfl, rfl⟩))))
  rintro v G9 ⟨hth, rfl, hC1⟩
  exact zzx_ret (zz_ireturn (pc := 5) C dL_execs_5 rfl (Nat.le_of_ble_eq_true rfl) (Nat.le_of_ble_eq_true rfl) (Or.inl ⟨hth, rfl, hC1⟩))
