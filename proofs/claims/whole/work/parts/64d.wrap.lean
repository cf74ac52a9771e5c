theorem kl_L_exists_24 : Cond.classLink RL 24 "java/lang/IllegalArgumentException" ∈ wsL_exists := by decide +kernel
set_option maxHeartbeats 4000000 in
set_option maxRecDepth 100000 in
theorem c_L_exists (l : Launch) (hl : l.stackTraces = false) (D : va_G) {G : zG} {x tb ev : Nat} {A : Nat → Nat} {σ : zS} {m0 : Nat} {x9 : Int32} {o : Nat} {w : Nat → Int64} (hC : zCl G x tb ev A σ [] 0 m0 G)  (ho : G o = some (zOut w)) : zxMet D l yL_exists wsL_exists ({ frames := 9, cells := 1, slots := 6, locals := 153 } : Room) [.ref x, .int x9, .ref o] G (fun v G9 => v = some (.int (zE1 (x9 < 1 ∨ (40 : Int32) < x9))) ∧ zWP G x tb ev o σ σ m0 m0 (zE1 (x9 < 1 ∨ (40 : Int32) < x9)) (some (if (zb (σ 0 (pn x9) ≠ 0)) = 0 then (0 : Int64) else 1)) G9) (fun _ => False) := by
  refine zxMet_ofH (cc := cL_exists) (maxL := 4) (ret := (some .int)) (hh := [(0, 16, 19, 24)]) (by decide) rfl (Nat.le_of_ble_eq_true rfl) ?_
  intro p e s m args below meth c C htb h8
  refine zz_aload_n (pc := 0) C dL_exists_0 rfl ?_
  refine zz_iconst (pc := 1) C (v := 0) (by decide) dL_exists_1 ?_
  refine zz_aload_n (pc := 2) C dL_exists_2 rfl ?_
  refine zz_iload_n (pc := 3) C dL_exists_3 rfl ?_
  refine zzx_callV (pc := 4) C h8 (c_X2_exists l hl D (B := G) (G := G) hC ) gL_exists_X2_exists rfl 1 (by decide +kernel) ⟨Nat.le_of_ble_eq_true rfl, Nat.le_of_ble_eq_true rfl⟩ hC.x (ci := 2) rfl rfl rfl dL_exists_4 rfl (Nat.le_of_ble_eq_true rfl) rfl ⟨Nat.le_of_ble_eq_true rfl, Nat.le_of_ble_eq_true rfl⟩ (fun E hE => ?_) ?_
  · skip
    obtain ⟨h1, rfl⟩ := hE
    · skip
      refine zzx_catch (pc := 4) (name := "java/lang/IllegalArgumentException") C (tableOf []) (⟨0, 16, 19, 24⟩ : ExceptionTableEntry) (tableOf []) (htb.trans rfl) ?_ rfl (by decide) (C.ts kl_L_exists_24) (zFace_moved (zFaces_ok _ (zIn_face (by decide))) (Vm.Alike.refl s.vm) (h8.2.2.2.1 _ (zIn_face (by decide)))) (fun qq => ?_)
      · exact fun z hz => absurd hz List.not_mem_nil
      · skip
        refine zz_astore_n (pc := 19) C dL_exists_19 (Nat.le_of_ble_eq_true rfl) ?_
        refine zz_iconst (pc := 20) C (v := 1) (by decide) dL_exists_20 ?_
        exact zzx_ret (zz_ireturn (pc := 21) C dL_exists_21 rfl (Nat.le_of_ble_eq_true rfl) (Nat.le_of_ble_eq_true rfl) ⟨by rw [h1], zWP_0 hC ho (by rw [h1]; decide)⟩)
  rintro v G9 ⟨hth, rfl, rfl⟩
  refine zz_if_eq (pc := 7) C (tgt := 14) dL_exists_7 (by decide) (fun hc7 => ?_) (fun hc7 => ?_)
  · refine zz_lconst (pc := 14) C (v := 0) rfl dL_exists_14 ?_
    refine zz_last (pc := 15) C dL_exists_15 (n := 1) ho (by unfold vp_in; decide) ?_
    refine zz_goto (pc := 16) C (tgt := 22) dL_exists_16 (by decide) ?_
    refine zz_iconst (pc := 22) C (v := 0) (by decide) dL_exists_22 ?_
    exact zzx_ret (zz_ireturn (pc := 23) C dL_exists_23 rfl (Nat.le_of_ble_eq_true rfl) (Nat.le_of_ble_eq_true rfl) ⟨by rw [hth], zWP_1 hC ho hth (congrArg some (if_pos hc7)) rfl⟩)
  · refine zz_lconst (pc := 10) C (v := 1) rfl dL_exists_10 ?_
    refine zz_goto (pc := 11) C (tgt := 15) dL_exists_11 (by decide) ?_
    refine zz_last (pc := 15) C dL_exists_15 (n := 1) ho (by unfold vp_in; decide) ?_
    refine zz_goto (pc := 16) C (tgt := 22) dL_exists_16 (by decide) ?_
    refine zz_iconst (pc := 22) C (v := 0) (by decide) dL_exists_22 ?_
    exact zzx_ret (zz_ireturn (pc := 23) C dL_exists_23 rfl (Nat.le_of_ble_eq_true rfl) (Nat.le_of_ble_eq_true rfl) ⟨by rw [hth], zWP_1 hC ho hth (congrArg some (if_neg hc7)) rfl⟩)
theorem kl_L_state_13 : Cond.classLink RL 13 "java/lang/IndexOutOfBoundsException" ∈ wsL_state := by decide +kernel
set_option maxHeartbeats 4000000 in
set_option maxRecDepth 100000 in
theorem c_L_state (l : Launch) (hl : l.stackTraces = false) (D : va_G) {G : zG} {x tb ev : Nat} {A : Nat → Nat} {σ : zS} {m0 : Nat} {x9 : Int32} {o : Nat} {w : Nat → Int64} (hC : zCl G x tb ev A σ [] 0 m0 G)  (ho : G o = some (zOut w)) : zxMet D l yL_state wsL_state ({ frames := 8, cells := 1, slots := 6, locals := 133 } : Room) [.ref x, .int x9, .ref o] G (fun v G9 => v = some (.int (zE1 (¬ zHere σ x9))) ∧ zWP G x tb ev o σ σ m0 m0 (zE1 (¬ zHere σ x9)) (some ((zCon σ (pn x9))).toInt64) G9) (fun _ => False) := by
  refine zxMet_ofH (cc := cL_state) (maxL := 4) (ret := (some .int)) (hh := [(0, 9, 12, 13)]) (by decide) rfl (Nat.le_of_ble_eq_true rfl) ?_
  intro p e s m args below meth c C htb h8
  refine zz_aload_n (pc := 0) C dL_state_0 rfl ?_
  refine zz_iconst (pc := 1) C (v := 0) (by decide) dL_state_1 ?_
  refine zz_aload_n (pc := 2) C dL_state_2 rfl ?_
  refine zz_iload_n (pc := 3) C dL_state_3 rfl ?_
  refine zzx_callV (pc := 4) C h8 (c_X2_state l hl D (B := G) (G := G) hC ) gL_state_X2_state rfl 1 (by decide +kernel) ⟨Nat.le_of_ble_eq_true rfl, Nat.le_of_ble_eq_true rfl⟩ hC.x (ci := 2) rfl rfl rfl dL_state_4 rfl (Nat.le_of_ble_eq_true rfl) rfl ⟨Nat.le_of_ble_eq_true rfl, Nat.le_of_ble_eq_true rfl⟩ (fun E hE => ?_) ?_
  · skip
    obtain ⟨h1, rfl⟩ := hE
    · skip
      refine zzx_catch (pc := 4) (name := "java/lang/IndexOutOfBoundsException") C (tableOf []) (⟨0, 9, 12, 13⟩ : ExceptionTableEntry) (tableOf []) (htb.trans rfl) ?_ rfl (by decide) (C.ts kl_L_state_13) (zFace_moved (zFaces_ok _ (zIn_face (by decide))) (Vm.Alike.refl s.vm) (h8.2.2.2.1 _ (zIn_face (by decide)))) (fun qq => ?_)
      · exact fun z hz => absurd hz List.not_mem_nil
      · skip
        refine zz_astore_n (pc := 12) C dL_state_12 (Nat.le_of_ble_eq_true rfl) ?_
        refine zz_iconst (pc := 13) C (v := 1) (by decide) dL_state_13 ?_
        exact zzx_ret (zz_ireturn (pc := 14) C dL_state_14 rfl (Nat.le_of_ble_eq_true rfl) (Nat.le_of_ble_eq_true rfl) ⟨by rw [h1], zWP_0 hC ho (by rw [h1]; decide)⟩)
  rintro v G9 ⟨hth, rfl, rfl⟩
  refine zz_i2l (pc := 7) C dL_state_7 ?_
  refine zz_last (pc := 8) C dL_state_8 (n := 1) ho (by unfold vp_in; decide) ?_
  refine zz_goto (pc := 9) C (tgt := 15) dL_state_9 (by decide) ?_
  refine zz_iconst (pc := 15) C (v := 0) (by decide) dL_state_15 ?_
  exact zzx_ret (zz_ireturn (pc := 16) C dL_state_16 rfl (Nat.le_of_ble_eq_true rfl) (Nat.le_of_ble_eq_true rfl) ⟨by rw [hth], zWP_1 hC ho hth rfl rfl⟩)
theorem kl_L_parent_13 : Cond.classLink RL 13 "java/lang/IndexOutOfBoundsException" ∈ wsL_parent := by decide +kernel
set_option maxHeartbeats 4000000 in
set_option maxRecDepth 100000 in
theorem c_L_parent (l : Launch) (hl : l.stackTraces = false) (D : va_G) {G : zG} {x tb ev : Nat} {A : Nat → Nat} {σ : zS} {m0 : Nat} {x9 : Int32} {o : Nat} {w : Nat → Int64} (hC : zCl G x tb ev A σ [] 0 m0 G) (hW : zWf σ) (ho : G o = some (zOut w)) : zxMet D l yL_parent wsL_parent ({ frames := 8, cells := 1, slots := 6, locals := 134 } : Room) [.ref x, .int x9, .ref o] G (fun v G9 => v = some (.int (zE1 (¬ zHere σ x9))) ∧ zWP G x tb ev o σ σ m0 m0 (zE1 (¬ zHere σ x9)) (some ((σ 1 (pn x9))).toInt64) G9) (fun _ => False) := by
  refine zxMet_ofH (cc := cL_parent) (maxL := 4) (ret := (some .int)) (hh := [(0, 9, 12, 13)]) (by decide) rfl (Nat.le_of_ble_eq_true rfl) ?_
  intro p e s m args below meth c C htb h8
  refine zz_aload_n (pc := 0) C dL_parent_0 rfl ?_
  refine zz_iconst (pc := 1) C (v := 0) (by decide) dL_parent_1 ?_
  refine zz_aload_n (pc := 2) C dL_parent_2 rfl ?_
  refine zz_iload_n (pc := 3) C dL_parent_3 rfl ?_
  refine zzx_callV (pc := 4) C h8 (c_X2_parent l hl D (B := G) (G := G) hC hW) gL_parent_X2_parent rfl 1 (by decide +kernel) ⟨Nat.le_of_ble_eq_true rfl, Nat.le_of_ble_eq_true rfl⟩ hC.x (ci := 2) rfl rfl rfl dL_parent_4 rfl (Nat.le_of_ble_eq_true rfl) rfl ⟨Nat.le_of_ble_eq_true rfl, Nat.le_of_ble_eq_true rfl⟩ (fun E hE => ?_) ?_
  · skip
    obtain ⟨h1, rfl⟩ := hE
    · skip
      refine zzx_catch (pc := 4) (name := "java/lang/IndexOutOfBoundsException") C (tableOf []) (⟨0, 9, 12, 13⟩ : ExceptionTableEntry) (tableOf []) (htb.trans rfl) ?_ rfl (by decide) (C.ts kl_L_parent_13) (zFace_moved (zFaces_ok _ (zIn_face (by decide))) (Vm.Alike.refl s.vm) (h8.2.2.2.1 _ (zIn_face (by decide)))) (fun qq => ?_)
      · exact fun z hz => absurd hz List.not_mem_nil
      · skip
        refine zz_astore_n (pc := 12) C dL_parent_12 (Nat.le_of_ble_eq_true rfl) ?_
        refine zz_iconst (pc := 13) C (v := 1) (by decide) dL_parent_13 ?_
        exact zzx_ret (zz_ireturn (pc := 14) C dL_parent_14 rfl (Nat.le_of_ble_eq_true rfl) (Nat.le_of_ble_eq_true rfl) ⟨by rw [h1], zWP_0 hC ho (by rw [h1]; decide)⟩)
  rintro v G9 ⟨hth, rfl, rfl⟩
  refine zz_i2l (pc := 7) C dL_parent_7 ?_
  refine zz_last (pc := 8) C dL_parent_8 (n := 1) ho (by unfold vp_in; decide) ?_
  refine zz_goto (pc := 9) C (tgt := 15) dL_parent_9 (by decide) ?_
  refine zz_iconst (pc := 15) C (v := 0) (by decide) dL_parent_15 ?_
  exact zzx_ret (zz_ireturn (pc := 16) C dL_parent_16 rfl (Nat.le_of_ble_eq_true rfl) (Nat.le_of_ble_eq_true rfl) ⟨by rw [hth], zWP_1 hC ho hth rfl rfl⟩)
theorem kl_L_group_13 : Cond.classLink RL 13 "java/lang/IndexOutOfBoundsException" ∈ wsL_group := by decide +kernel
set_option maxHeartbeats 4000000 in
set_option maxRecDepth 100000 in
theorem c_L_group (l : Launch) (hl : l.stackTraces = false) (D : va_G) {G : zG} {x tb ev : Nat} {A : Nat → Nat} {σ : zS} {m0 : Nat} {x9 : Int32} {o : Nat} {w : Nat → Int64} (hC : zCl G x tb ev A σ [] 0 m0 G)  (ho : G o = some (zOut w)) : zxMet D l yL_group wsL_group ({ frames := 8, cells := 1, slots := 6, locals := 133 } : Room) [.ref x, .int x9, .ref o] G (fun v G9 => v = some (.int (zE1 (¬ zHere σ x9))) ∧ zWP G x tb ev o σ σ m0 m0 (zE1 (¬ zHere σ x9)) (some ((σ 2 (pn x9))).toInt64) G9) (fun _ => False) := by
  refine zxMet_ofH (cc := cL_group) (maxL := 4) (ret := (some .int)) (hh := [(0, 9, 12, 13)]) (by decide) rfl (Nat.le_of_ble_eq_true rfl) ?_
  intro p e s m args below meth c C htb h8
  refine zz_aload_n (pc := 0) C dL_group_0 rfl ?_
  refine zz_iconst (pc := 1) C (v := 0) (by decide) dL_group_1 ?_
  refine zz_aload_n (pc := 2) C dL_group_2 rfl ?_
  refine zz_iload_n (pc := 3) C dL_group_3 rfl ?_
  refine zzx_callV (pc := 4) C h8 (c_X2_group l hl D (B := G) (G := G) hC ) gL_group_X2_group rfl 1 (by decide +kernel) ⟨Nat.le_of_ble_eq_true rfl, Nat.le_of_ble_eq_true rfl⟩ hC.x (ci := 2) rfl rfl rfl dL_group_4 rfl (Nat.le_of_ble_eq_true rfl) rfl ⟨Nat.le_of_ble_eq_true rfl, Nat.le_of_ble_eq_true rfl⟩ (fun E hE => ?_) ?_
  · skip
    obtain ⟨h1, rfl⟩ := hE
    · skip
      refine zzx_catch (pc := 4) (name := "java/lang/IndexOutOfBoundsException") C (tableOf []) (⟨0, 9, 12, 13⟩ : ExceptionTableEntry) (tableOf []) (htb.trans rfl) ?_ rfl (by decide) (C.ts kl_L_group_13) (zFace_moved (zFaces_ok _ (zIn_face (by decide))) (Vm.Alike.refl s.vm) (h8.2.2.2.1 _ (zIn_face (by decide)))) (fun qq => ?_)
      · exact fun z hz => absurd hz List.not_mem_nil
      · skip
        refine zz_astore_n (pc := 12) C dL_group_12 (Nat.le_of_ble_eq_true rfl) ?_
        refine zz_iconst (pc := 13) C (v := 1) (by decide) dL_group_13 ?_
        exact zzx_ret (zz_ireturn (pc := 14) C dL_group_14 rfl (Nat.le_of_ble_eq_true rfl) (Nat.le_of_ble_eq_true rfl) ⟨by rw [h1], zWP_0 hC ho (by rw [h1]; decide)⟩)
  rintro v G9 ⟨hth, rfl, rfl⟩
  refine zz_i2l (pc := 7) C dL_group_7 ?_
  refine zz_last (pc := 8) C dL_group_8 (n := 1) ho (by unfold vp_in; decide) ?_
  refine zz_goto (pc := 9) C (tgt := 15) dL_group_9 (by decide) ?_
  refine zz_iconst (pc := 15) C (v := 0) (by decide) dL_group_15 ?_
  exact zzx_ret (zz_ireturn (pc := 16) C dL_group_16 rfl (Nat.le_of_ble_eq_true rfl) (Nat.le_of_ble_eq_true rfl) ⟨by rw [hth], zWP_1 hC ho hth rfl rfl⟩)
theorem kl_L_session_13 : Cond.classLink RL 13 "java/lang/IndexOutOfBoundsException" ∈ wsL_session := by decide +kernel
set_option maxHeartbeats 4000000 in
set_option maxRecDepth 100000 in
theorem c_L_session (l : Launch) (hl : l.stackTraces = false) (D : va_G) {G : zG} {x tb ev : Nat} {A : Nat → Nat} {σ : zS} {m0 : Nat} {x9 : Int32} {o : Nat} {w : Nat → Int64} (hC : zCl G x tb ev A σ [] 0 m0 G)  (ho : G o = some (zOut w)) : zxMet D l yL_session wsL_session ({ frames := 8, cells := 1, slots := 6, locals := 133 } : Room) [.ref x, .int x9, .ref o] G (fun v G9 => v = some (.int (zE1 (¬ zHere σ x9))) ∧ zWP G x tb ev o σ σ m0 m0 (zE1 (¬ zHere σ x9)) (some ((σ 3 (pn x9))).toInt64) G9) (fun _ => False) := by
  refine zxMet_ofH (cc := cL_session) (maxL := 4) (ret := (some .int)) (hh := [(0, 9, 12, 13)]) (by decide) rfl (Nat.le_of_ble_eq_true rfl) ?_
  intro p e s m args below meth c C htb h8
  refine zz_aload_n (pc := 0) C dL_session_0 rfl ?_
  refine zz_iconst (pc := 1) C (v := 0) (by decide) dL_session_1 ?_
  refine zz_aload_n (pc := 2) C dL_session_2 rfl ?_
  refine zz_iload_n (pc := 3) C dL_session_3 rfl ?_
  refine zzx_callV (pc := 4) C h8 (c_X2_session l hl D (B := G) (G := G) hC ) gL_session_X2_session rfl 1 (by decide +kernel) ⟨Nat.le_of_ble_eq_true rfl, Nat.le_of_ble_eq_true rfl⟩ hC.x (ci := 2) rfl rfl rfl dL_session_4 rfl (Nat.le_of_ble_eq_true rfl) rfl ⟨Nat.le_of_ble_eq_true rfl, Nat.le_of_ble_eq_true rfl⟩ (fun E hE => ?_) ?_
  · skip
    obtain ⟨h1, rfl⟩ := hE
    · skip
      refine zzx_catch (pc := 4) (name := "java/lang/IndexOutOfBoundsException") C (tableOf []) (⟨0, 9, 12, 13⟩ : ExceptionTableEntry) (tableOf []) (htb.trans rfl) ?_ rfl (by decide) (C.ts kl_L_session_13) (zFace_moved (zFaces_ok _ (zIn_face (by decide))) (Vm.Alike.refl s.vm) (h8.2.2.2.1 _ (zIn_face (by decide)))) (fun qq => ?_)
      · exact fun z hz => absurd hz List.not_mem_nil
      · skip
        refine zz_astore_n (pc := 12) C dL_session_12 (Nat.le_of_ble_eq_true rfl) ?_
        refine zz_iconst (pc := 13) C (v := 1) (by decide) dL_session_13 ?_
        exact zzx_ret (zz_ireturn (pc := 14) C dL_session_14 rfl (Nat.le_of_ble_eq_true rfl) (Nat.le_of_ble_eq_true rfl) ⟨by rw [h1], zWP_0 hC ho (by rw [h1]; decide)⟩)
  rintro v G9 ⟨hth, rfl, rfl⟩
  refine zz_i2l (pc := 7) C dL_session_7 ?_
  refine zz_last (pc := 8) C dL_session_8 (n := 1) ho (by unfold vp_in; decide) ?_
  refine zz_goto (pc := 9) C (tgt := 15) dL_session_9 (by decide) ?_
  refine zz_iconst (pc := 15) C (v := 0) (by decide) dL_session_15 ?_
  exact zzx_ret (zz_ireturn (pc := 16) C dL_session_16 rfl (Nat.le_of_ble_eq_true rfl) (Nat.le_of_ble_eq_true rfl) ⟨by rw [hth], zWP_1 hC ho hth rfl rfl⟩)
theorem kl_L_pending_13 : Cond.classLink RL 13 "java/lang/IndexOutOfBoundsException" ∈ wsL_pending := by decide +kernel
set_option maxHeartbeats 4000000 in
set_option maxRecDepth 100000 in
theorem c_L_pending (l : Launch) (hl : l.stackTraces = false) (D : va_G) {G : zG} {x tb ev : Nat} {A : Nat → Nat} {σ : zS} {m0 : Nat} {x9 : Int32} {o : Nat} {w : Nat → Int64} (hC : zCl G x tb ev A σ [] 0 m0 G)  (ho : G o = some (zOut w)) : zxMet D l yL_pending wsL_pending ({ frames := 8, cells := 1, slots := 6, locals := 133 } : Room) [.ref x, .int x9, .ref o] G (fun v G9 => v = some (.int (zE1 (¬ zHere σ x9))) ∧ zWP G x tb ev o σ σ m0 m0 (zE1 (¬ zHere σ x9)) (some ((σ 11 (pn x9))).toInt64) G9) (fun _ => False) := by
  refine zxMet_ofH (cc := cL_pending) (maxL := 4) (ret := (some .int)) (hh := [(0, 9, 12, 13)]) (by decide) rfl (Nat.le_of_ble_eq_true rfl) ?_
  intro p e s m args below meth c C htb h8
  refine zz_aload_n (pc := 0) C dL_pending_0 rfl ?_
  refine zz_iconst (pc := 1) C (v := 0) (by decide) dL_pending_1 ?_
  refine zz_aload_n (pc := 2) C dL_pending_2 rfl ?_
  refine zz_iload_n (pc := 3) C dL_pending_3 rfl ?_
  refine zzx_callV (pc := 4) C h8 (c_X2_pending l hl D (B := G) (G := G) hC ) gL_pending_X2_pending rfl 1 (by decide +kernel) ⟨Nat.le_of_ble_eq_true rfl, Nat.le_of_ble_eq_true rfl⟩ hC.x (ci := 2) rfl rfl rfl dL_pending_4 rfl (Nat.le_of_ble_eq_true rfl) rfl ⟨Nat.le_of_ble_eq_true rfl, Nat.le_of_ble_eq_true rfl⟩ (fun E hE => ?_) ?_
  · skip
    obtain ⟨h1, rfl⟩ := hE
    · skip
      refine zzx_catch (pc := 4) (name := "java/lang/IndexOutOfBoundsException") C (tableOf []) (⟨0, 9, 12, 13⟩ : ExceptionTableEntry) (tableOf []) (htb.trans rfl) ?_ rfl (by decide) (C.ts kl_L_pending_13) (zFace_moved (zFaces_ok _ (zIn_face (by decide))) (Vm.Alike.refl s.vm) (h8.2.2.2.1 _ (zIn_face (by decide)))) (fun qq => ?_)
      · exact fun z hz => absurd hz List.not_mem_nil
      · skip
        refine zz_astore_n (pc := 12) C dL_pending_12 (Nat.le_of_ble_eq_true rfl) ?_
        refine zz_iconst (pc := 13) C (v := 1) (by decide) dL_pending_13 ?_
        exact zzx_ret (zz_ireturn (pc := 14) C dL_pending_14 rfl (Nat.le_of_ble_eq_true rfl) (Nat.le_of_ble_eq_true rfl) ⟨by rw [h1], zWP_0 hC ho (by rw [h1]; decide)⟩)
  rintro v G9 ⟨hth, rfl, rfl⟩
  refine zz_i2l (pc := 7) C dL_pending_7 ?_
  refine zz_last (pc := 8) C dL_pending_8 (n := 1) ho (by unfold vp_in; decide) ?_
  refine zz_goto (pc := 9) C (tgt := 15) dL_pending_9 (by decide) ?_
  refine zz_iconst (pc := 15) C (v := 0) (by decide) dL_pending_15 ?_
  exact zzx_ret (zz_ireturn (pc := 16) C dL_pending_16 rfl (Nat.le_of_ble_eq_true rfl) (Nat.le_of_ble_eq_true rfl) ⟨by rw [hth], zWP_1 hC ho hth rfl rfl⟩)
theorem kl_L_caught_13 : Cond.classLink RL 13 "java/lang/IndexOutOfBoundsException" ∈ wsL_caught := by decide +kernel
set_option maxHeartbeats 4000000 in
set_option maxRecDepth 100000 in
theorem c_L_caught (l : Launch) (hl : l.stackTraces = false) (D : va_G) {G : zG} {x tb ev : Nat} {A : Nat → Nat} {σ : zS} {m0 : Nat} {x9 : Int32} {o : Nat} {w : Nat → Int64} (hC : zCl G x tb ev A σ [] 0 m0 G)  (ho : G o = some (zOut w)) : zxMet D l yL_caught wsL_caught ({ frames := 8, cells := 1, slots := 6, locals := 133 } : Room) [.ref x, .int x9, .ref o] G (fun v G9 => v = some (.int (zE1 (¬ zHere σ x9))) ∧ zWP G x tb ev o σ σ m0 m0 (zE1 (¬ zHere σ x9)) (some ((σ 12 (pn x9))).toInt64) G9) (fun _ => False) := by
  refine zxMet_ofH (cc := cL_caught) (maxL := 4) (ret := (some .int)) (hh := [(0, 9, 12, 13)]) (by decide) rfl (Nat.le_of_ble_eq_true rfl) ?_
  intro p e s m args below meth c C htb h8
  refine zz_aload_n (pc := 0) C dL_caught_0 rfl ?_
  refine zz_iconst (pc := 1) C (v := 0) (by decide) dL_caught_1 ?_
  refine zz_aload_n (pc := 2) C dL_caught_2 rfl ?_
  refine zz_iload_n (pc := 3) C dL_caught_3 rfl ?_
  refine zzx_callV (pc := 4) C h8 (c_X2_caught l hl D (B := G) (G := G) hC ) gL_caught_X2_caught rfl 1 (by decide +kernel) ⟨Nat.le_of_ble_eq_true rfl, Nat.le_of_ble_eq_true rfl⟩ hC.x (ci := 2) rfl rfl rfl dL_caught_4 rfl (Nat.le_of_ble_eq_true rfl) rfl ⟨Nat.le_of_ble_eq_true rfl, Nat.le_of_ble_eq_true rfl⟩ (fun E hE => ?_) ?_
  · skip
    obtain ⟨h1, rfl⟩ := hE
    · skip
      refine zzx_catch (pc := 4) (name := "java/lang/IndexOutOfBoundsException") C (tableOf []) (⟨0, 9, 12, 13⟩ : ExceptionTableEntry) (tableOf []) (htb.trans rfl) ?_ rfl (by decide) (C.ts kl_L_caught_13) (zFace_moved (zFaces_ok _ (zIn_face (by decide))) (Vm.Alike.refl s.vm) (h8.2.2.2.1 _ (zIn_face (by decide)))) (fun qq => ?_)
      · exact fun z hz => absurd hz List.not_mem_nil
      · skip
        refine zz_astore_n (pc := 12) C dL_caught_12 (Nat.le_of_ble_eq_true rfl) ?_
        refine zz_iconst (pc := 13) C (v := 1) (by decide) dL_caught_13 ?_
        exact zzx_ret (zz_ireturn (pc := 14) C dL_caught_14 rfl (Nat.le_of_ble_eq_true rfl) (Nat.le_of_ble_eq_true rfl) ⟨by rw [h1], zWP_0 hC ho (by rw [h1]; decide)⟩)
  rintro v G9 ⟨hth, rfl, rfl⟩
  refine zz_i2l (pc := 7) C dL_caught_7 ?_
  refine zz_last (pc := 8) C dL_caught_8 (n := 1) ho (by unfold vp_in; decide) ?_
  refine zz_goto (pc := 9) C (tgt := 15) dL_caught_9 (by decide) ?_
  refine zz_iconst (pc := 15) C (v := 0) (by decide) dL_caught_15 ?_
  exact zzx_ret (zz_ireturn (pc := 16) C dL_caught_16 rfl (Nat.le_of_ble_eq_true rfl) (Nat.le_of_ble_eq_true rfl) ⟨by rw [hth], zWP_1 hC ho hth rfl rfl⟩)
theorem kl_L_isOrphaned_24 : Cond.classLink RL 24 "java/lang/IllegalArgumentException" ∈ wsL_isOrphaned := by decide +kernel
set_option maxHeartbeats 4000000 in
set_option maxRecDepth 100000 in
theorem c_L_isOrphaned (l : Launch) (hl : l.stackTraces = false) (D : va_G) {G : zG} {x tb ev : Nat} {A : Nat → Nat} {σ : zS} {m0 : Nat} {x9 : Int32} {o : Nat} {w : Nat → Int64} (hC : zCl G x tb ev A σ [] 0 m0 G) (hH : zHas σ) (ho : G o = some (zOut w)) : zxMet D l yL_isOrphaned wsL_isOrphaned ({ frames := 9, cells := 1, slots := 6, locals := 153 } : Room) [.ref x, .int x9, .ref o] G (fun v G9 => v = some (.int (zE1 (x9 < 1 ∨ (40 : Int32) < x9))) ∧ zWP G x tb ev o σ σ m0 m0 (zE1 (x9 < 1 ∨ (40 : Int32) < x9)) (some (if (zb (zOrph σ x9)) = 0 then (0 : Int64) else 1)) G9) (fun _ => False) := by
  refine zxMet_ofH (cc := cL_isOrphaned) (maxL := 4) (ret := (some .int)) (hh := [(0, 16, 19, 24)]) (by decide) rfl (Nat.le_of_ble_eq_true rfl) ?_
  intro p e s m args below meth c C htb h8
  refine zz_aload_n (pc := 0) C dL_isOrphaned_0 rfl ?_
  refine zz_iconst (pc := 1) C (v := 0) (by decide) dL_isOrphaned_1 ?_
  refine zz_aload_n (pc := 2) C dL_isOrphaned_2 rfl ?_
  refine zz_iload_n (pc := 3) C dL_isOrphaned_3 rfl ?_
  refine zzx_callV (pc := 4) C h8 (c_X2_isOrphaned l hl D (B := G) (G := G) hC hH) gL_isOrphaned_X2_isOrphaned rfl 1 (by decide +kernel) ⟨Nat.le_of_ble_eq_true rfl, Nat.le_of_ble_eq_true rfl⟩ hC.x (ci := 2) rfl rfl rfl dL_isOrphaned_4 rfl (Nat.le_of_ble_eq_true rfl) rfl ⟨Nat.le_of_ble_eq_true rfl, Nat.le_of_ble_eq_true rfl⟩ (fun E hE => ?_) ?_
  · skip
    obtain ⟨h1, rfl⟩ := hE
    · skip
      refine zzx_catch (pc := 4) (name := "java/lang/IllegalArgumentException") C (tableOf []) (⟨0, 16, 19, 24⟩ : ExceptionTableEntry) (tableOf []) (htb.trans rfl) ?_ rfl (by decide) (C.ts kl_L_isOrphaned_24) (zFace_moved (zFaces_ok _ (zIn_face (by decide))) (Vm.Alike.refl s.vm) (h8.2.2.2.1 _ (zIn_face (by decide)))) (fun qq => ?_)
      · exact fun z hz => absurd hz List.not_mem_nil
      · skip
        refine zz_astore_n (pc := 19) C dL_isOrphaned_19 (Nat.le_of_ble_eq_true rfl) ?_
        refine zz_iconst (pc := 20) C (v := 1) (by decide) dL_isOrphaned_20 ?_
        exact zzx_ret (zz_ireturn (pc := 21) C dL_isOrphaned_21 rfl (Nat.le_of_ble_eq_true rfl) (Nat.le_of_ble_eq_true rfl) ⟨by rw [h1], zWP_0 hC ho (by rw [h1]; decide)⟩)
  rintro v G9 ⟨hth, rfl, rfl⟩
  refine zz_if_eq (pc := 7) C (tgt := 14) dL_isOrphaned_7 (by decide) (fun hc7 => ?_) (fun hc7 => ?_)
  · refine zz_lconst (pc := 14) C (v := 0) rfl dL_isOrphaned_14 ?_
    refine zz_last (pc := 15) C dL_isOrphaned_15 (n := 1) ho (by unfold vp_in; decide) ?_
    refine zz_goto (pc := 16) C (tgt := 22) dL_isOrphaned_16 (by decide) ?_
    refine zz_iconst (pc := 22) C (v := 0) (by decide) dL_isOrphaned_22 ?_
    exact zzx_ret (zz_ireturn (pc := 23) C dL_isOrphaned_23 rfl (Nat.le_of_ble_eq_true rfl) (Nat.le_of_ble_eq_true rfl) ⟨by rw [hth], zWP_1 hC ho hth (congrArg some (if_pos hc7)) rfl⟩)
  · refine zz_lconst (pc := 10) C (v := 1) rfl dL_isOrphaned_10 ?_
    refine zz_goto (pc := 11) C (tgt := 15) dL_isOrphaned_11 (by decide) ?_
    refine zz_last (pc := 15) C dL_isOrphaned_15 (n := 1) ho (by unfold vp_in; decide) ?_
    refine zz_goto (pc := 16) C (tgt := 22) dL_isOrphaned_16 (by decide) ?_
    refine zz_iconst (pc := 22) C (v := 0) (by decide) dL_isOrphaned_22 ?_
    exact zzx_ret (zz_ireturn (pc := 23) C dL_isOrphaned_23 rfl (Nat.le_of_ble_eq_true rfl) (Nat.le_of_ble_eq_true rfl) ⟨by rw [hth], zWP_1 hC ho hth (congrArg some (if_neg hc7)) rfl⟩)
theorem kl_L_waitResult_13 : Cond.classLink RL 13 "java/lang/IndexOutOfBoundsException" ∈ wsL_waitResult := by decide +kernel
set_option maxHeartbeats 4000000 in
set_option maxRecDepth 100000 in
theorem c_L_waitResult (l : Launch) (hl : l.stackTraces = false) (D : va_G) {G : zG} {x tb ev : Nat} {A : Nat → Nat} {σ : zS} {m0 : Nat} {x9 : Int32} {o : Nat} {w : Nat → Int64} (hC : zCl G x tb ev A σ [] 0 m0 G)  (ho : G o = some (zOut w)) : zxMet D l yL_waitResult wsL_waitResult ({ frames := 8, cells := 1, slots := 6, locals := 133 } : Room) [.ref x, .int x9, .ref o] G (fun v G9 => v = some (.int (zE1 (¬ zHere σ x9))) ∧ zWP G x tb ev o σ σ m0 m0 (zE1 (¬ zHere σ x9)) (some ((σ 18 (pn x9))).toInt64) G9) (fun _ => False) := by
  refine zxMet_ofH (cc := cL_waitResult) (maxL := 4) (ret := (some .int)) (hh := [(0, 9, 12, 13)]) (by decide) rfl (Nat.le_of_ble_eq_true rfl) ?_
  intro p e s m args below meth c C htb h8
  refine zz_aload_n (pc := 0) C dL_waitResult_0 rfl ?_
  refine zz_iconst (pc := 1) C (v := 0) (by decide) dL_waitResult_1 ?_
  refine zz_aload_n (pc := 2) C dL_waitResult_2 rfl ?_
  refine zz_iload_n (pc := 3) C dL_waitResult_3 rfl ?_
  refine zzx_callV (pc := 4) C h8 (c_X2_waitResult l hl D (B := G) (G := G) hC ) gL_waitResult_X2_waitResult rfl 1 (by decide +kernel) ⟨Nat.le_of_ble_eq_true rfl, Nat.le_of_ble_eq_true rfl⟩ hC.x (ci := 2) rfl rfl rfl dL_waitResult_4 rfl (Nat.le_of_ble_eq_true rfl) rfl ⟨Nat.le_of_ble_eq_true rfl, Nat.le_of_ble_eq_true rfl⟩ (fun E hE => ?_) ?_
  · skip
    obtain ⟨h1, rfl⟩ := hE
    · skip
      refine zzx_catch (pc := 4) (name := "java/lang/IndexOutOfBoundsException") C (tableOf []) (⟨0, 9, 12, 13⟩ : ExceptionTableEntry) (tableOf []) (htb.trans rfl) ?_ rfl (by decide) (C.ts kl_L_waitResult_13) (zFace_moved (zFaces_ok _ (zIn_face (by decide))) (Vm.Alike.refl s.vm) (h8.2.2.2.1 _ (zIn_face (by decide)))) (fun qq => ?_)
      · exact fun z hz => absurd hz List.not_mem_nil
      · skip
        refine zz_astore_n (pc := 12) C dL_waitResult_12 (Nat.le_of_ble_eq_true rfl) ?_
        refine zz_iconst (pc := 13) C (v := 1) (by decide) dL_waitResult_13 ?_
        exact zzx_ret (zz_ireturn (pc := 14) C dL_waitResult_14 rfl (Nat.le_of_ble_eq_true rfl) (Nat.le_of_ble_eq_true rfl) ⟨by rw [h1], zWP_0 hC ho (by rw [h1]; decide)⟩)
  rintro v G9 ⟨hth, rfl, rfl⟩
  refine zz_i2l (pc := 7) C dL_waitResult_7 ?_
  refine zz_last (pc := 8) C dL_waitResult_8 (n := 1) ho (by unfold vp_in; decide) ?_
  refine zz_goto (pc := 9) C (tgt := 15) dL_waitResult_9 (by decide) ?_
  refine zz_iconst (pc := 15) C (v := 0) (by decide) dL_waitResult_15 ?_
  exact zzx_ret (zz_ireturn (pc := 16) C dL_waitResult_16 rfl (Nat.le_of_ble_eq_true rfl) (Nat.le_of_ble_eq_true rfl) ⟨by rw [hth], zWP_1 hC ho hth rfl rfl⟩)
theorem kl_L_reportedChild_13 : Cond.classLink RL 13 "java/lang/IndexOutOfBoundsException" ∈ wsL_reportedChild := by decide +kernel
set_option maxHeartbeats 4000000 in
set_option maxRecDepth 100000 in
theorem c_L_reportedChild (l : Launch) (hl : l.stackTraces = false) (D : va_G) {G : zG} {x tb ev : Nat} {A : Nat → Nat} {σ : zS} {m0 : Nat} {x9 : Int32} {o : Nat} {w : Nat → Int64} (hC : zCl G x tb ev A σ [] 0 m0 G)  (ho : G o = some (zOut w)) : zxMet D l yL_reportedChild wsL_reportedChild ({ frames := 8, cells := 1, slots := 6, locals := 133 } : Room) [.ref x, .int x9, .ref o] G (fun v G9 => v = some (.int (zE1 (¬ zHere σ x9))) ∧ zWP G x tb ev o σ σ m0 m0 (zE1 (¬ zHere σ x9)) (some ((σ 19 (pn x9))).toInt64) G9) (fun _ => False) := by
  refine zxMet_ofH (cc := cL_reportedChild) (maxL := 4) (ret := (some .int)) (hh := [(0, 9, 12, 13)]) (by decide) rfl (Nat.le_of_ble_eq_true rfl) ?_
  intro p e s m args below meth c C htb h8
  refine zz_aload_n (pc := 0) C dL_reportedChild_0 rfl ?_
  refine zz_iconst (pc := 1) C (v := 0) (by decide) dL_reportedChild_1 ?_
  refine zz_aload_n (pc := 2) C dL_reportedChild_2 rfl ?_
  refine zz_iload_n (pc := 3) C dL_reportedChild_3 rfl ?_
  refine zzx_callV (pc := 4) C h8 (c_X2_reportedChild l hl D (B := G) (G := G) hC ) gL_reportedChild_X2_reportedChild rfl 1 (by decide +kernel) ⟨Nat.le_of_ble_eq_true rfl, Nat.le_of_ble_eq_true rfl⟩ hC.x (ci := 2) rfl rfl rfl dL_reportedChild_4 rfl (Nat.le_of_ble_eq_true rfl) rfl ⟨Nat.le_of_ble_eq_true rfl, Nat.le_of_ble_eq_true rfl⟩ (fun E hE => ?_) ?_
  · skip
    obtain ⟨h1, rfl⟩ := hE
    · skip
      refine zzx_catch (pc := 4) (name := "java/lang/IndexOutOfBoundsException") C (tableOf []) (⟨0, 9, 12, 13⟩ : ExceptionTableEntry) (tableOf []) (htb.trans rfl) ?_ rfl (by decide) (C.ts kl_L_reportedChild_13) (zFace_moved (zFaces_ok _ (zIn_face (by decide))) (Vm.Alike.refl s.vm) (h8.2.2.2.1 _ (zIn_face (by decide)))) (fun qq => ?_)
      · exact fun z hz => absurd hz List.not_mem_nil
      · skip
        refine zz_astore_n (pc := 12) C dL_reportedChild_12 (Nat.le_of_ble_eq_true rfl) ?_
        refine zz_iconst (pc := 13) C (v := 1) (by decide) dL_reportedChild_13 ?_
        exact zzx_ret (zz_ireturn (pc := 14) C dL_reportedChild_14 rfl (Nat.le_of_ble_eq_true rfl) (Nat.le_of_ble_eq_true rfl) ⟨by rw [h1], zWP_0 hC ho (by rw [h1]; decide)⟩)
  rintro v G9 ⟨hth, rfl, rfl⟩
  refine zz_i2l (pc := 7) C dL_reportedChild_7 ?_
  refine zz_last (pc := 8) C dL_reportedChild_8 (n := 1) ho (by unfold vp_in; decide) ?_
  refine zz_goto (pc := 9) C (tgt := 15) dL_reportedChild_9 (by decide) ?_
  refine zz_iconst (pc := 15) C (v := 0) (by decide) dL_reportedChild_15 ?_
  exact zzx_ret (zz_ireturn (pc := 16) C dL_reportedChild_16 rfl (Nat.le_of_ble_eq_true rfl) (Nat.le_of_ble_eq_true rfl) ⟨by rw [hth], zWP_1 hC ho hth rfl rfl⟩)
theorem kl_L_reportedValue_13 : Cond.classLink RL 13 "java/lang/IndexOutOfBoundsException" ∈ wsL_reportedValue := by decide +kernel
set_option maxHeartbeats 4000000 in
set_option maxRecDepth 100000 in
theorem c_L_reportedValue (l : Launch) (hl : l.stackTraces = false) (D : va_G) {G : zG} {x tb ev : Nat} {A : Nat → Nat} {σ : zS} {m0 : Nat} {x9 : Int32} {o : Nat} {w : Nat → Int64} (hC : zCl G x tb ev A σ [] 0 m0 G)  (ho : G o = some (zOut w)) : zxMet D l yL_reportedValue wsL_reportedValue ({ frames := 8, cells := 1, slots := 6, locals := 133 } : Room) [.ref x, .int x9, .ref o] G (fun v G9 => v = some (.int (zE1 (¬ zHere σ x9))) ∧ zWP G x tb ev o σ σ m0 m0 (zE1 (¬ zHere σ x9)) (some ((σ 20 (pn x9))).toInt64) G9) (fun _ => False) := by
  refine zxMet_ofH (cc := cL_reportedValue) (maxL := 4) (ret := (some .int)) (hh := [(0, 9, 12, 13)]) (by decide) rfl (Nat.le_of_ble_eq_true rfl) ?_
  intro p e s m args below meth c C htb h8
  refine zz_aload_n (pc := 0) C dL_reportedValue_0 rfl ?_
  refine zz_iconst (pc := 1) C (v := 0) (by decide) dL_reportedValue_1 ?_
  refine zz_aload_n (pc := 2) C dL_reportedValue_2 rfl ?_
  refine zz_iload_n (pc := 3) C dL_reportedValue_3 rfl ?_
  refine zzx_callV (pc := 4) C h8 (c_X2_reportedValue l hl D (B := G) (G := G) hC ) gL_reportedValue_X2_reportedValue rfl 1 (by decide +kernel) ⟨Nat.le_of_ble_eq_true rfl, Nat.le_of_ble_eq_true rfl⟩ hC.x (ci := 2) rfl rfl rfl dL_reportedValue_4 rfl (Nat.le_of_ble_eq_true rfl) rfl ⟨Nat.le_of_ble_eq_true rfl, Nat.le_of_ble_eq_true rfl⟩ (fun E hE => ?_) ?_
  · skip
    obtain ⟨h1, rfl⟩ := hE
    · skip
      refine zzx_catch (pc := 4) (name := "java/lang/IndexOutOfBoundsException") C (tableOf []) (⟨0, 9, 12, 13⟩ : ExceptionTableEntry) (tableOf []) (htb.trans rfl) ?_ rfl (by decide) (C.ts kl_L_reportedValue_13) (zFace_moved (zFaces_ok _ (zIn_face (by decide))) (Vm.Alike.refl s.vm) (h8.2.2.2.1 _ (zIn_face (by decide)))) (fun qq => ?_)
      · exact fun z hz => absurd hz List.not_mem_nil
      · skip
        refine zz_astore_n (pc := 12) C dL_reportedValue_12 (Nat.le_of_ble_eq_true rfl) ?_
        refine zz_iconst (pc := 13) C (v := 1) (by decide) dL_reportedValue_13 ?_
        exact zzx_ret (zz_ireturn (pc := 14) C dL_reportedValue_14 rfl (Nat.le_of_ble_eq_true rfl) (Nat.le_of_ble_eq_true rfl) ⟨by rw [h1], zWP_0 hC ho (by rw [h1]; decide)⟩)
  rintro v G9 ⟨hth, rfl, rfl⟩
  refine zz_i2l (pc := 7) C dL_reportedValue_7 ?_
  refine zz_last (pc := 8) C dL_reportedValue_8 (n := 1) ho (by unfold vp_in; decide) ?_
  refine zz_goto (pc := 9) C (tgt := 15) dL_reportedValue_9 (by decide) ?_
  refine zz_iconst (pc := 15) C (v := 0) (by decide) dL_reportedValue_15 ?_
  exact zzx_ret (zz_ireturn (pc := 16) C dL_reportedValue_16 rfl (Nat.le_of_ble_eq_true rfl) (Nat.le_of_ble_eq_true rfl) ⟨by rw [hth], zWP_1 hC ho hth rfl rfl⟩)
