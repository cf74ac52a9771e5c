set_option maxHeartbeats 4000000 in
set_option maxRecDepth 100000 in
theorem c_L_sent (l : Launch) (hl : l.stackTraces = false) (D : va_G) {B G : zG} {x tb ev : Nat} {A : Nat → Nat} {σ : zS} {m0 N : Nat} {x9 s9 : Int32} {X : zS × List zEv} (hC : zCl B x tb ev A σ [] 0 m0 G)  (hX : X = (σ, [(pn s9, pn x9)])) (hrun : zE2 (¬ zHere σ x9) (s9 < 0 ∨ ¬ s9 < 9) = 0 → zReady N X) : zxMet D l yL_sent wsL_sent (zRmX 10 251 m0 (zCount N X.1 X.2) 2) [.ref x, .int x9, .int s9] G (fun v G9 => zE2 (¬ zHere σ x9) (s9 < 0 ∨ ¬ s9 < 9) = 0 ∧ v = some (.int 0) ∧ zCl B x tb ev A (zFin N X) [] 0 (max m0 (zCount N X.1 X.2)) G9) (fun E => (zE2 (¬ zHere σ x9) (s9 < 0 ∨ ¬ s9 < 9) = 1 ∧ E = "java/lang/IndexOutOfBoundsException") ∨ (zE2 (¬ zHere σ x9) (s9 < 0 ∨ ¬ s9 < 9) = 2 ∧ E = "java/lang/IllegalArgumentException")) := by
  refine zxMet_of (cc := cL_sent) (maxL := 3) (ret := (some .int)) (by decide) rfl (Nat.le_of_ble_eq_true rfl) ?_
  intro p e s m args below meth c C hnx h8
  refine zz_aload_n (pc := 0) C dL_sent_0 rfl ?_
  refine zz_iload_n (pc := 1) C dL_sent_1 rfl ?_
  refine zz_iload_n (pc := 2) C dL_sent_2 rfl ?_
  refine zzx_callV (pc := 3) C h8 (c_X2_send l hl D (B := B) (G := G) (X := X) (N := N) hC hX hrun) gL_sent_X2_send rfl 2 (by decide +kernel) ⟨Nat.le_of_ble_eq_true rfl, Nat.le_of_ble_eq_true rfl⟩ hC.x (ci := 2) rfl rfl rfl dL_sent_3 rfl (Nat.le_of_ble_eq_true rfl) rfl ⟨Nat.le_of_eq (Nat.zero_add _), Nat.le_of_eq (Nat.zero_add _)⟩ (fun E hE => zzx_out C hnx hE (Nat.le_of_eq (Nat.zero_add _)) (Nat.le_of_eq (Nat.zero_add _))) ?_
  rintro v G9 ⟨hth, rfl, hC1⟩
  refine zz_iconst (pc := 6) C (v := 0) (by decide) dL_sent_6 ?_
  exact zzx_ret (zz_ireturn (pc := 7) C dL_sent_7 rfl (Nat.le_of_eq (Nat.zero_add _)) (Nat.le_of_eq (Nat.zero_add _)) ⟨hth, rfl, hC1⟩)
theorem kl_L_sends_14 : Cond.classLink RL 14 "java/lang/IndexOutOfBoundsException" ∈ wsL_sends := by decide +kernel
theorem kl_L_sends_31 : Cond.classLink RL 31 "java/lang/IllegalArgumentException" ∈ wsL_sends := by decide +kernel
set_option maxHeartbeats 4000000 in
set_option maxRecDepth 100000 in
theorem c_L_sends (l : Launch) (hl : l.stackTraces = false) (D : va_G) {B G : zG} {x tb ev : Nat} {A : Nat → Nat} {σ : zS} {m0 N : Nat} {x9 s9 : Int32} {X : zS × List zEv} (hC : zCl B x tb ev A σ [] 0 m0 G)  (hX : X = (σ, [(pn s9, pn x9)])) (hrun : zE2 (¬ zHere σ x9) (s9 < 0 ∨ ¬ s9 < 9) = 0 → zReady N X) : zxMet D l yL_sends wsL_sends (zRmX 11 273 m0 (zCount N X.1 X.2) 2) [.ref x, .int x9, .int s9] G (fun v G9 => (zE2 (¬ zHere σ x9) (s9 < 0 ∨ ¬ s9 < 9) = 0 ∧ v = some (.int 0) ∧ zCl B x tb ev A (zFin N X) [] 0 (max m0 (zCount N X.1 X.2)) G9) ∨ (zE2 (¬ zHere σ x9) (s9 < 0 ∨ ¬ s9 < 9) = 1 ∧ v = some (.int (-30)) ∧ G9 = G) ∨ (zE2 (¬ zHere σ x9) (s9 < 0 ∨ ¬ s9 < 9) = 2 ∧ v = some (.int (-20)) ∧ G9 = G)) (fun _ => False) := by
  refine zxMet_ofH (cc := cL_sends) (maxL := 4) (ret := (some .int)) (hh := [(0, 6, 7, 14), (0, 6, 11, 31)]) (by decide) rfl (Nat.le_of_ble_eq_true rfl) ?_
  intro p e s m args below meth c C htb h8
  refine zz_aload_n (pc := 0) C dL_sends_0 rfl ?_
  refine zz_iload_n (pc := 1) C dL_sends_1 rfl ?_
  refine zz_iload_n (pc := 2) C dL_sends_2 rfl ?_
  refine zzx_callS (pc := 3) C h8 (c_L_sent l hl D (B := B) (G := G) (X := X) (N := N) hC hX hrun) gL_sends_L_sent rfl 3 (by decide +kernel) ⟨Nat.le_of_ble_eq_true rfl, Nat.le_of_ble_eq_true rfl⟩ rfl dL_sends_3 rfl (Nat.le_of_ble_eq_true rfl) rfl ⟨Nat.le_of_eq (Nat.zero_add _), Nat.le_of_eq (Nat.zero_add _)⟩ (fun E hE => ?_) ?_
  · skip
    rcases hE with ⟨h1, rfl⟩ | ⟨h1, rfl⟩
    · skip
      refine zzx_catch (pc := 3) (name := "java/lang/IndexOutOfBoundsException") C (tableOf []) (⟨0, 6, 7, 14⟩ : ExceptionTableEntry) (tableOf [(0, 6, 11, 31)]) (htb.trans rfl) ?_ rfl (by decide) (C.ts kl_L_sends_14) (zFace_moved (zFaces_ok _ (zIn_face (by decide))) (Vm.Alike.refl s.vm) (h8.2.2.2.1 _ (zIn_face (by decide)))) (fun qq => ?_)
      · exact fun z hz => absurd hz List.not_mem_nil
      · skip
        refine zz_astore_n (pc := 7) C dL_sends_7 (Nat.le_of_ble_eq_true rfl) ?_
        refine zz_bipush (pc := 8) C (v := -30) (by decide) dL_sends_8 ?_
        exact zzx_ret (zz_ireturn (pc := 10) C dL_sends_10 rfl (Nat.le_of_eq (Nat.zero_add _)) (Nat.le_of_eq (Nat.zero_add _)) (Or.inr (Or.inl (⟨h1, rfl, rfl⟩))))
    · skip
      refine zzx_catch (pc := 3) (name := "java/lang/IllegalArgumentException") C (tableOf [(0, 6, 7, 14)]) (⟨0, 6, 11, 31⟩ : ExceptionTableEntry) (tableOf []) (htb.trans rfl) ?_ rfl (by decide) (C.ts kl_L_sends_31) (zFace_moved (zFaces_ok _ (zIn_face (by decide))) (Vm.Alike.refl s.vm) (h8.2.2.2.1 _ (zIn_face (by decide)))) (fun qq => ?_)
      · intro z hz; rcases List.mem_singleton.mp hz with rfl; exact Or.inr ⟨by decide, "java/lang/IndexOutOfBoundsException", C.ts kl_L_sends_14, h8.2.2.2.2.1 _ (by decide) _ (by decide) (by decide)⟩
      · skip
        refine zz_astore_n (pc := 11) C dL_sends_11 (Nat.le_of_ble_eq_true rfl) ?_
        refine zz_bipush (pc := 12) C (v := -20) (by decide) dL_sends_12 ?_
        exact zzx_ret (zz_ireturn (pc := 14) C dL_sends_14 rfl (Nat.le_of_eq (Nat.zero_add _)) (Nat.le_of_eq (Nat.zero_add _)) (Or.inr (Or.inr (⟨h1, rfl, rfl⟩))))
  rintro v G9 ⟨hth, rfl, hC1⟩
  exact zzx_ret (zz_ireturn (pc := 6) C dL_sends_6 rfl (Nat.le_of_eq (Nat.zero_add _)) (Nat.le_of_eq (Nat.zero_add _)) (Or.inl ⟨hth, rfl, hC1⟩))
theorem kl_L_types_16 : Cond.classLink RL 16 "java/lang/IllegalStateException" ∈ wsL_types := by decide +kernel
set_option maxHeartbeats 4000000 in
set_option maxRecDepth 100000 in
theorem c_L_types (l : Launch) (hl : l.stackTraces = false) (D : va_G) {B G : zG} {x tb ev : Nat} {A : Nat → Nat} {σ : zS} {m0 N : Nat} {f9 s9 : Int32} {X : zS × List zEv} (hC : zCl B x tb ev A σ [] 0 m0 G) (hsg : (f9 = 0 ∧ s9 = 1) ∨ (¬ f9 = 0 ∧ s9 = 6)) (hX : X = (σ, zSends σ (σ 22 0) (pn s9) 41)) (hrun : zE1 (σ 21 0 = -1) = 0 → zReady N X) : zxMet D l yL_types wsL_types (zRmX 10 251 m0 (zCount N X.1 X.2) 1) [.ref x, .int f9] G (fun v G9 => (zE1 (σ 21 0 = -1) = 0 ∧ v = some (.int (nI (zMemL σ (σ 22 0) 41).length)) ∧ zCl B x tb ev A (zFin N X) [] 0 (max m0 (zCount N X.1 X.2)) G9) ∨ (zE1 (σ 21 0 = -1) = 1 ∧ v = some (.int (-10)) ∧ G9 = G)) (fun _ => False) := by
  refine zxMet_ofH (cc := cL_types) (maxL := 3) (ret := (some .int)) (hh := [(0, 5, 6, 16)]) (by decide) rfl (Nat.le_of_ble_eq_true rfl) ?_
  intro p e s m args below meth c C htb h8
  refine zz_aload_n (pc := 0) C dL_types_0 rfl ?_
  refine zz_iload_n (pc := 1) C dL_types_1 rfl ?_
  refine zzx_callV (pc := 2) C h8 (c_X2_type l hl D (B := B) (G := G) (X := X) (N := N) hC hsg hX hrun) gL_types_X2_type rfl 1 (by decide +kernel) ⟨Nat.le_of_ble_eq_true rfl, Nat.le_of_ble_eq_true rfl⟩ hC.x (ci := 2) rfl rfl rfl dL_types_2 rfl (Nat.le_of_ble_eq_true rfl) rfl ⟨Nat.le_of_eq (Nat.zero_add _), Nat.le_of_eq (Nat.zero_add _)⟩ (fun E hE => ?_) ?_
  · skip
    obtain ⟨h1, rfl⟩ := hE
    · skip
      refine zzx_catch (pc := 2) (name := "java/lang/IllegalStateException") C (tableOf []) (⟨0, 5, 6, 16⟩ : ExceptionTableEntry) (tableOf []) (htb.trans rfl) ?_ rfl (by decide) (C.ts kl_L_types_16) (zFace_moved (zFaces_ok _ (zIn_face (by decide))) (Vm.Alike.refl s.vm) (h8.2.2.2.1 _ (zIn_face (by decide)))) (fun qq => ?_)
      · exact fun z hz => absurd hz List.not_mem_nil
      · skip
        refine zz_astore_n (pc := 6) C dL_types_6 (Nat.le_of_ble_eq_true rfl) ?_
        refine zz_bipush (pc := 7) C (v := -10) (by decide) dL_types_7 ?_
        exact zzx_ret (zz_ireturn (pc := 9) C dL_types_9 rfl (Nat.le_of_eq (Nat.zero_add _)) (Nat.le_of_eq (Nat.zero_add _)) (Or.inr (⟨h1, rfl, rfl⟩)))
  rintro v G9 ⟨hth, rfl, hC1⟩
  exact zzx_ret (zz_ireturn (pc := 5) C dL_types_5 rfl (Nat.le_of_eq (Nat.zero_add _)) (Nat.le_of_eq (Nat.zero_add _)) (Or.inl ⟨hth, rfl, hC1⟩))
theorem kl_L_hangs_16 : Cond.classLink RL 16 "java/lang/IllegalStateException" ∈ wsL_hangs := by decide +kernel
set_option maxHeartbeats 4000000 in
set_option maxRecDepth 100000 in
theorem c_L_hangs (l : Launch) (hl : l.stackTraces = false) (D : va_G) {B G : zG} {x tb ev : Nat} {A : Nat → Nat} {σ : zS} {m0 N : Nat}  {X : zS × List zEv} (hC : zCl B x tb ev A σ [] 0 m0 G) (hW : zWf σ) (hX : X = (zFreeT σ, [(0, pn (σ 21 0))])) (hrun : zE1 (σ 21 0 = -1) = 0 → zReady N X) : zxMet D l yL_hangs wsL_hangs (zRmX 10 250 m0 (zCount N X.1 X.2) 1) [.ref x] G (fun v G9 => (zE1 (σ 21 0 = -1) = 0 ∧ v = some (.int (σ 21 0)) ∧ zCl B x tb ev A (zFin N X) [] 0 (max m0 (zCount N X.1 X.2)) G9) ∨ (zE1 (σ 21 0 = -1) = 1 ∧ v = some (.int (-10)) ∧ G9 = G)) (fun _ => False) := by
  refine zxMet_ofH (cc := cL_hangs) (maxL := 2) (ret := (some .int)) (hh := [(0, 4, 5, 16)]) (by decide) rfl (Nat.le_of_ble_eq_true rfl) ?_
  intro p e s m args below meth c C htb h8
  refine zz_aload_n (pc := 0) C dL_hangs_0 rfl ?_
  refine zzx_callV (pc := 1) C h8 (c_X2_hangUp l hl D (B := B) (G := G) (X := X) (N := N) hC hW hX hrun) gL_hangs_X2_hangUp rfl 0 (by decide +kernel) ⟨Nat.le_of_ble_eq_true rfl, Nat.le_of_ble_eq_true rfl⟩ hC.x (ci := 2) rfl rfl rfl dL_hangs_1 rfl (Nat.le_of_ble_eq_true rfl) rfl ⟨Nat.le_of_eq (Nat.zero_add _), Nat.le_of_eq (Nat.zero_add _)⟩ (fun E hE => ?_) ?_
  · skip
    obtain ⟨h1, rfl⟩ := hE
    · skip
      refine zzx_catch (pc := 1) (name := "java/lang/IllegalStateException") C (tableOf []) (⟨0, 4, 5, 16⟩ : ExceptionTableEntry) (tableOf []) (htb.trans rfl) ?_ rfl (by decide) (C.ts kl_L_hangs_16) (zFace_moved (zFaces_ok _ (zIn_face (by decide))) (Vm.Alike.refl s.vm) (h8.2.2.2.1 _ (zIn_face (by decide)))) (fun qq => ?_)
      · exact fun z hz => absurd hz List.not_mem_nil
      · skip
        refine zz_astore_n (pc := 5) C dL_hangs_5 (Nat.le_of_ble_eq_true rfl) ?_
        refine zz_bipush (pc := 6) C (v := -10) (by decide) dL_hangs_6 ?_
        exact zzx_ret (zz_ireturn (pc := 8) C dL_hangs_8 rfl (Nat.le_of_eq (Nat.zero_add _)) (Nat.le_of_eq (Nat.zero_add _)) (Or.inr (⟨h1, rfl, rfl⟩)))
  rintro v G9 ⟨hth, rfl, hC1⟩
  exact zzx_ret (zz_ireturn (pc := 4) C dL_hangs_4 rfl (Nat.le_of_eq (Nat.zero_add _)) (Nat.le_of_eq (Nat.zero_add _)) (Or.inl ⟨hth, rfl, hC1⟩))
