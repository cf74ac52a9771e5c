set_option maxHeartbeats 4000000 in
set_option maxRecDepth 100000 in
theorem c_L_left (l : Launch) (hl : l.stackTraces = false) (D : va_G) {B G : zG} {x tb ev : Nat} {A : Nat → Nat} {σ : zS} {m0 N : Nat} {x9 c9 : Int32} {X : zS × List zEv} (hC : zCl B x tb ev A σ [] 0 m0 G) (hW : zWf σ) (hX : X = zTerm (σ, []) (pn x9) 0 c9) (hrun : zE3 (¬ zHere σ x9) (c9 < 0 ∨ (255 : Int32) < c9) (zNot σ (pn x9)) = 0 → zReady N X) : zxMet D l yL_left wsL_left (zRmX 10 252 m0 (zCount N X.1 X.2) 3) [.ref x, .int x9, .int c9] G (fun v G9 => zE3 (¬ zHere σ x9) (c9 < 0 ∨ (255 : Int32) < c9) (zNot σ (pn x9)) = 0 ∧ v = some (.int 0) ∧ zCl B x tb ev A (zFin N X) [] 0 (max m0 (zCount N X.1 X.2)) G9) (fun E => (zE3 (¬ zHere σ x9) (c9 < 0 ∨ (255 : Int32) < c9) (zNot σ (pn x9)) = 1 ∧ E = "java/lang/IndexOutOfBoundsException") ∨ (zE3 (¬ zHere σ x9) (c9 < 0 ∨ (255 : Int32) < c9) (zNot σ (pn x9)) = 2 ∧ E = "java/lang/IllegalArgumentException") ∨ (zE3 (¬ zHere σ x9) (c9 < 0 ∨ (255 : Int32) < c9) (zNot σ (pn x9)) = 3 ∧ E = "java/lang/IllegalStateException")) := by
  refine zxMet_of (cc := cL_left) (maxL := 3) (ret := (some .int)) (by decide) rfl (Nat.le_of_ble_eq_true rfl) ?_
  intro p e s m args below meth c C hnx h8
  refine zz_aload_n (pc := 0) C dL_left_0 rfl ?_
  refine zz_iload_n (pc := 1) C dL_left_1 rfl ?_
  refine zz_iload_n (pc := 2) C dL_left_2 rfl ?_
  refine zzx_callV (pc := 3) C h8 (c_X2_exit l hl D (B := B) (G := G) (X := X) (N := N) hC hW hX hrun) gL_left_X2_exit rfl 2 (by decide +kernel) ⟨Nat.le_of_ble_eq_true rfl, Nat.le_of_ble_eq_true rfl⟩ hC.x (ci := 2) rfl rfl rfl dL_left_3 rfl (Nat.le_of_ble_eq_true rfl) rfl ⟨Nat.le_of_eq (Nat.zero_add _), Nat.le_of_eq (Nat.zero_add _)⟩ (fun E hE => zzx_out C hnx hE (Nat.le_of_eq (Nat.zero_add _)) (Nat.le_of_eq (Nat.zero_add _))) ?_
  rintro v G9 ⟨hth, rfl, hC1⟩
  refine zz_iconst (pc := 6) C (v := 0) (by decide) dL_left_6 ?_
  exact zzx_ret (zz_ireturn (pc := 7) C dL_left_7 rfl (Nat.le_of_eq (Nat.zero_add _)) (Nat.le_of_eq (Nat.zero_add _)) ⟨hth, rfl, hC1⟩)
theorem kl_L_exits_14 : Cond.classLink RL 14 "java/lang/IndexOutOfBoundsException" ∈ wsL_exits := by decide +kernel
theorem kl_L_exits_31 : Cond.classLink RL 31 "java/lang/IllegalArgumentException" ∈ wsL_exits := by decide +kernel
theorem kl_L_exits_16 : Cond.classLink RL 16 "java/lang/IllegalStateException" ∈ wsL_exits := by decide +kernel
set_option maxHeartbeats 4000000 in
set_option maxRecDepth 100000 in
theorem c_L_exits (l : Launch) (hl : l.stackTraces = false) (D : va_G) {B G : zG} {x tb ev : Nat} {A : Nat → Nat} {σ : zS} {m0 N : Nat} {x9 c9 : Int32} {X : zS × List zEv} (hC : zCl B x tb ev A σ [] 0 m0 G) (hW : zWf σ) (hX : X = zTerm (σ, []) (pn x9) 0 c9) (hrun : zE3 (¬ zHere σ x9) (c9 < 0 ∨ (255 : Int32) < c9) (zNot σ (pn x9)) = 0 → zReady N X) : zxMet D l yL_exits wsL_exits (zRmX 11 274 m0 (zCount N X.1 X.2) 3) [.ref x, .int x9, .int c9] G (fun v G9 => (zE3 (¬ zHere σ x9) (c9 < 0 ∨ (255 : Int32) < c9) (zNot σ (pn x9)) = 0 ∧ v = some (.int 0) ∧ zCl B x tb ev A (zFin N X) [] 0 (max m0 (zCount N X.1 X.2)) G9) ∨ (zE3 (¬ zHere σ x9) (c9 < 0 ∨ (255 : Int32) < c9) (zNot σ (pn x9)) = 1 ∧ v = some (.int (-30)) ∧ G9 = G) ∨ (zE3 (¬ zHere σ x9) (c9 < 0 ∨ (255 : Int32) < c9) (zNot σ (pn x9)) = 2 ∧ v = some (.int (-20)) ∧ G9 = G) ∨ (zE3 (¬ zHere σ x9) (c9 < 0 ∨ (255 : Int32) < c9) (zNot σ (pn x9)) = 3 ∧ v = some (.int (-10)) ∧ G9 = G)) (fun _ => False) := by
  refine zxMet_ofH (cc := cL_exits) (maxL := 4) (ret := (some .int)) (hh := [(0, 6, 7, 14), (0, 6, 11, 31), (0, 6, 15, 16)]) (by decide) rfl (Nat.le_of_ble_eq_true rfl) ?_
  intro p e s m args below meth c C htb h8
  refine zz_aload_n (pc := 0) C dL_exits_0 rfl ?_
  refine zz_iload_n (pc := 1) C dL_exits_1 rfl ?_
  refine zz_iload_n (pc := 2) C dL_exits_2 rfl ?_
  refine zzx_callS (pc := 3) C h8 (c_L_left l hl D (B := B) (G := G) (X := X) (N := N) hC hW hX hrun) gL_exits_L_left rfl 3 (by decide +kernel) ⟨Nat.le_of_ble_eq_true rfl, Nat.le_of_ble_eq_true rfl⟩ rfl dL_exits_3 rfl (Nat.le_of_ble_eq_true rfl) rfl ⟨Nat.le_of_eq (Nat.zero_add _), Nat.le_of_eq (Nat.zero_add _)⟩ (fun E hE => ?_) ?_
  · skip
    rcases hE with ⟨h1, rfl⟩ | ⟨h1, rfl⟩ | ⟨h1, rfl⟩
    · skip
      refine zzx_catch (pc := 3) (name := "java/lang/IndexOutOfBoundsException") C (tableOf []) (⟨0, 6, 7, 14⟩ : ExceptionTableEntry) (tableOf [(0, 6, 11, 31), (0, 6, 15, 16)]) (htb.trans rfl) ?_ rfl (by decide) (C.ts kl_L_exits_14) (zFace_moved (zFaces_ok _ (zIn_face (by decide))) (Vm.Alike.refl s.vm) (h8.2.2.2.1 _ (zIn_face (by decide)))) (fun qq => ?_)
      · exact fun z hz => absurd hz List.not_mem_nil
      · skip
        refine zz_astore_n (pc := 7) C dL_exits_7 (Nat.le_of_ble_eq_true rfl) ?_
        refine zz_bipush (pc := 8) C (v := -30) (by decide) dL_exits_8 ?_
        exact zzx_ret (zz_ireturn (pc := 10) C dL_exits_10 rfl (Nat.le_of_eq (Nat.zero_add _)) (Nat.le_of_eq (Nat.zero_add _)) (Or.inr (Or.inl (⟨h1, rfl, rfl⟩))))
    · skip
      refine zzx_catch (pc := 3) (name := "java/lang/IllegalArgumentException") C (tableOf [(0, 6, 7, 14)]) (⟨0, 6, 11, 31⟩ : ExceptionTableEntry) (tableOf [(0, 6, 15, 16)]) (htb.trans rfl) ?_ rfl (by decide) (C.ts kl_L_exits_31) (zFace_moved (zFaces_ok _ (zIn_face (by decide))) (Vm.Alike.refl s.vm) (h8.2.2.2.1 _ (zIn_face (by decide)))) (fun qq => ?_)
      · intro z hz; rcases List.mem_singleton.mp hz with rfl; exact Or.inr ⟨by decide, "java/lang/IndexOutOfBoundsException", C.ts kl_L_exits_14, h8.2.2.2.2.1 _ (by decide) _ (by decide) (by decide)⟩
      · skip
        refine zz_astore_n (pc := 11) C dL_exits_11 (Nat.le_of_ble_eq_true rfl) ?_
        refine zz_bipush (pc := 12) C (v := -20) (by decide) dL_exits_12 ?_
        exact zzx_ret (zz_ireturn (pc := 14) C dL_exits_14 rfl (Nat.le_of_eq (Nat.zero_add _)) (Nat.le_of_eq (Nat.zero_add _)) (Or.inr (Or.inr (Or.inl (⟨h1, rfl, rfl⟩)))))
    · skip
      refine zzx_catch (pc := 3) (name := "java/lang/IllegalStateException") C (tableOf [(0, 6, 7, 14), (0, 6, 11, 31)]) (⟨0, 6, 15, 16⟩ : ExceptionTableEntry) (tableOf []) (htb.trans rfl) ?_ rfl (by decide) (C.ts kl_L_exits_16) (zFace_moved (zFaces_ok _ (zIn_face (by decide))) (Vm.Alike.refl s.vm) (h8.2.2.2.1 _ (zIn_face (by decide)))) (fun qq => ?_)
      · intro z hz; rcases List.mem_cons.mp hz with rfl | hz; exact Or.inr ⟨by decide, "java/lang/IndexOutOfBoundsException", C.ts kl_L_exits_14, h8.2.2.2.2.1 _ (by decide) _ (by decide) (by decide)⟩; rcases List.mem_singleton.mp hz with rfl; exact Or.inr ⟨by decide, "java/lang/IllegalArgumentException", C.ts kl_L_exits_31, h8.2.2.2.2.1 _ (by decide) _ (by decide) (by decide)⟩
      · skip
        refine zz_astore_n (pc := 15) C dL_exits_15 (Nat.le_of_ble_eq_true rfl) ?_
        refine zz_bipush (pc := 16) C (v := -10) (by decide) dL_exits_16 ?_
        exact zzx_ret (zz_ireturn (pc := 18) C dL_exits_18 rfl (Nat.le_of_eq (Nat.zero_add _)) (Nat.le_of_eq (Nat.zero_add _)) (Or.inr (Or.inr (Or.inr (⟨h1, rfl, rfl⟩)))))
  rintro v G9 ⟨hth, rfl, hC1⟩
  exact zzx_ret (zz_ireturn (pc := 6) C dL_exits_6 rfl (Nat.le_of_eq (Nat.zero_add _)) (Nat.le_of_eq (Nat.zero_add _)) (Or.inl ⟨hth, rfl, hC1⟩))
theorem kl_L_waitsAny_14 : Cond.classLink RL 14 "java/lang/IndexOutOfBoundsException" ∈ wsL_waitsAny := by decide +kernel
theorem kl_L_waitsAny_16 : Cond.classLink RL 16 "java/lang/IllegalStateException" ∈ wsL_waitsAny := by decide +kernel
set_option maxHeartbeats 4000000 in
set_option maxRecDepth 100000 in
theorem c_L_waitsAny (l : Launch) (hl : l.stackTraces = false) (D : va_G) {B G : zG} {x tb ev : Nat} {A : Nat → Nat} {σ : zS} {m0 : Nat} {x9 f9 : Int32} (hC : zCl B x tb ev A σ [] 0 m0 G) (hW : zWf σ) (hf9 : f9 = 0 ∨ f9 = 1) : zxMet D l yL_waitsAny wsL_waitsAny ({ frames := 8, cells := 2, slots := 12, locals := 135 } : Room) [.ref x, .int x9, .int f9] G (fun v G9 => (zE2 (¬ zHere σ x9) (zNot σ (pn x9)) = 0 ∧ v = some (.int (if (zb ((zCheck (zWset σ (pn x9) (-1) f9) (pn x9)) 6 (pn x9) = 0)) = 0 then (0 : Int32) else 1)) ∧ zCl B x tb ev A (zCheck (zWset σ (pn x9) (-1) f9) (pn x9)) [] 0 m0 G9) ∨ (zE2 (¬ zHere σ x9) (zNot σ (pn x9)) = 1 ∧ v = some (.int (-30)) ∧ G9 = G) ∨ (zE2 (¬ zHere σ x9) (zNot σ (pn x9)) = 2 ∧ v = some (.int (-10)) ∧ G9 = G)) (fun _ => False) := by
  refine zxMet_ofH (cc := cL_waitsAny) (maxL := 4) (ret := (some .int)) (hh := [(0, 14, 15, 14), (0, 14, 19, 16)]) (by decide) rfl (Nat.le_of_ble_eq_true rfl) ?_
  intro p e s m args below meth c C htb h8
  refine zz_aload_n (pc := 0) C dL_waitsAny_0 rfl ?_
  refine zz_iload_n (pc := 1) C dL_waitsAny_1 rfl ?_
  refine zz_iload_n (pc := 2) C dL_waitsAny_2 rfl ?_
  refine zzx_callV (pc := 3) C h8 (c_X2_waitAny l hl D (B := B) (G := G) hC hW hf9) gL_waitsAny_X2_waitAny rfl 2 (by decide +kernel) ⟨Nat.le_of_ble_eq_true rfl, Nat.le_of_ble_eq_true rfl⟩ hC.x (ci := 2) rfl rfl rfl dL_waitsAny_3 rfl (Nat.le_of_ble_eq_true rfl) rfl ⟨Nat.le_of_ble_eq_true rfl, Nat.le_of_ble_eq_true rfl⟩ (fun E hE => ?_) ?_
  · skip
    rcases hE with ⟨h1, rfl⟩ | ⟨h1, rfl⟩
    · skip
      refine zzx_catch (pc := 3) (name := "java/lang/IndexOutOfBoundsException") C (tableOf []) (⟨0, 14, 15, 14⟩ : ExceptionTableEntry) (tableOf [(0, 14, 19, 16)]) (htb.trans rfl) ?_ rfl (by decide) (C.ts kl_L_waitsAny_14) (zFace_moved (zFaces_ok _ (zIn_face (by decide))) (Vm.Alike.refl s.vm) (h8.2.2.2.1 _ (zIn_face (by decide)))) (fun qq => ?_)
      · exact fun z hz => absurd hz List.not_mem_nil
      · skip
        refine zz_astore_n (pc := 15) C dL_waitsAny_15 (Nat.le_of_ble_eq_true rfl) ?_
        refine zz_bipush (pc := 16) C (v := -30) (by decide) dL_waitsAny_16 ?_
        exact zzx_ret (zz_ireturn (pc := 18) C dL_waitsAny_18 rfl (Nat.le_of_ble_eq_true rfl) (Nat.le_of_ble_eq_true rfl) (Or.inr (Or.inl (⟨h1, rfl, rfl⟩))))
    · skip
      refine zzx_catch (pc := 3) (name := "java/lang/IllegalStateException") C (tableOf [(0, 14, 15, 14)]) (⟨0, 14, 19, 16⟩ : ExceptionTableEntry) (tableOf []) (htb.trans rfl) ?_ rfl (by decide) (C.ts kl_L_waitsAny_16) (zFace_moved (zFaces_ok _ (zIn_face (by decide))) (Vm.Alike.refl s.vm) (h8.2.2.2.1 _ (zIn_face (by decide)))) (fun qq => ?_)
      · intro z hz; rcases List.mem_singleton.mp hz with rfl; exact Or.inr ⟨by decide, "java/lang/IndexOutOfBoundsException", C.ts kl_L_waitsAny_14, h8.2.2.2.2.1 _ (by decide) _ (by decide) (by decide)⟩
      · skip
        refine zz_astore_n (pc := 19) C dL_waitsAny_19 (Nat.le_of_ble_eq_true rfl) ?_
        refine zz_bipush (pc := 20) C (v := -10) (by decide) dL_waitsAny_20 ?_
        exact zzx_ret (zz_ireturn (pc := 22) C dL_waitsAny_22 rfl (Nat.le_of_ble_eq_true rfl) (Nat.le_of_ble_eq_true rfl) (Or.inr (Or.inr (⟨h1, rfl, rfl⟩))))
  rintro v G9 ⟨hth, rfl, hC1⟩
  refine zz_if_eq (pc := 6) C (tgt := 13) dL_waitsAny_6 (by decide) (fun hc6 => ?_) (fun hc6 => ?_)
  · refine zz_iconst (pc := 13) C (v := 0) (by decide) dL_waitsAny_13 ?_
    exact zzx_ret (zz_ireturn (pc := 14) C dL_waitsAny_14 rfl (Nat.le_of_ble_eq_true rfl) (Nat.le_of_ble_eq_true rfl) (Or.inl ⟨hth, (by rw [if_pos hc6]), hC1⟩))
  · refine zz_iconst (pc := 9) C (v := 1) (by decide) dL_waitsAny_9 ?_
    refine zz_goto (pc := 10) C (tgt := 14) dL_waitsAny_10 (by decide) ?_
    exact zzx_ret (zz_ireturn (pc := 14) C dL_waitsAny_14 rfl (Nat.le_of_ble_eq_true rfl) (Nat.le_of_ble_eq_true rfl) (Or.inl ⟨hth, (by rw [if_neg hc6]), hC1⟩))
theorem kl_L_waitsFor_14 : Cond.classLink RL 14 "java/lang/IndexOutOfBoundsException" ∈ wsL_waitsFor := by decide +kernel
theorem kl_L_waitsFor_31 : Cond.classLink RL 31 "java/lang/IllegalArgumentException" ∈ wsL_waitsFor := by decide +kernel
theorem kl_L_waitsFor_16 : Cond.classLink RL 16 "java/lang/IllegalStateException" ∈ wsL_waitsFor := by decide +kernel
set_option maxHeartbeats 4000000 in
set_option maxRecDepth 100000 in
theorem c_L_waitsFor (l : Launch) (hl : l.stackTraces = false) (D : va_G) {B G : zG} {x tb ev : Nat} {A : Nat → Nat} {σ : zS} {m0 : Nat} {x9 c9 f9 : Int32} (hC : zCl B x tb ev A σ [] 0 m0 G) (hW : zWf σ) (hf9 : f9 = 0 ∨ f9 = 1) : zxMet D l yL_waitsFor wsL_waitsFor ({ frames := 9, cells := 3, slots := 18, locals := 156 } : Room) [.ref x, .int x9, .int c9, .int f9] G (fun v G9 => (zE3 (¬ zHere σ x9) (c9 < 1 ∨ (40 : Int32) < c9) (zNot σ (pn x9)) = 0 ∧ v = some (.int (if (zb ((zCheck (zWset σ (pn x9) c9 f9) (pn x9)) 6 (pn x9) = 0)) = 0 then (0 : Int32) else 1)) ∧ zCl B x tb ev A (zCheck (zWset σ (pn x9) c9 f9) (pn x9)) [] 0 m0 G9) ∨ (zE3 (¬ zHere σ x9) (c9 < 1 ∨ (40 : Int32) < c9) (zNot σ (pn x9)) = 1 ∧ v = some (.int (-30)) ∧ G9 = G) ∨ (zE3 (¬ zHere σ x9) (c9 < 1 ∨ (40 : Int32) < c9) (zNot σ (pn x9)) = 2 ∧ v = some (.int (-20)) ∧ G9 = G) ∨ (zE3 (¬ zHere σ x9) (c9 < 1 ∨ (40 : Int32) < c9) (zNot σ (pn x9)) = 3 ∧ v = some (.int (-10)) ∧ G9 = G)) (fun _ => False) := by
  refine zxMet_ofH (cc := cL_waitsFor) (maxL := 5) (ret := (some .int)) (hh := [(0, 15, 16, 14), (0, 15, 21, 31), (0, 15, 26, 16)]) (by decide) rfl (Nat.le_of_ble_eq_true rfl) ?_
  intro p e s m args below meth c C htb h8
  refine zz_aload_n (pc := 0) C dL_waitsFor_0 rfl ?_
  refine zz_iload_n (pc := 1) C dL_waitsFor_1 rfl ?_
  refine zz_iload_n (pc := 2) C dL_waitsFor_2 rfl ?_
  refine zz_iload_n (pc := 3) C dL_waitsFor_3 rfl ?_
  refine zzx_callV (pc := 4) C h8 (c_X2_waitFor l hl D (B := B) (G := G) hC hW hf9) gL_waitsFor_X2_waitFor rfl 3 (by decide +kernel) ⟨Nat.le_of_ble_eq_true rfl, Nat.le_of_ble_eq_true rfl⟩ hC.x (ci := 2) rfl rfl rfl dL_waitsFor_4 rfl (Nat.le_of_ble_eq_true rfl) rfl ⟨Nat.le_of_ble_eq_true rfl, Nat.le_of_ble_eq_true rfl⟩ (fun E hE => ?_) ?_
  · skip
    rcases hE with ⟨h1, rfl⟩ | ⟨h1, rfl⟩ | ⟨h1, rfl⟩
    · skip
      refine zzx_catch (pc := 4) (name := "java/lang/IndexOutOfBoundsException") C (tableOf []) (⟨0, 15, 16, 14⟩ : ExceptionTableEntry) (tableOf [(0, 15, 21, 31), (0, 15, 26, 16)]) (htb.trans rfl) ?_ rfl (by decide) (C.ts kl_L_waitsFor_14) (zFace_moved (zFaces_ok _ (zIn_face (by decide))) (Vm.Alike.refl s.vm) (h8.2.2.2.1 _ (zIn_face (by decide)))) (fun qq => ?_)
      · exact fun z hz => absurd hz List.not_mem_nil
      · skip
        refine zz_astore (pc := 16) C dL_waitsFor_16 (Nat.le_of_ble_eq_true rfl) ?_
        refine zz_bipush (pc := 18) C (v := -30) (by decide) dL_waitsFor_18 ?_
        exact zzx_ret (zz_ireturn (pc := 20) C dL_waitsFor_20 rfl (Nat.le_of_ble_eq_true rfl) (Nat.le_of_ble_eq_true rfl) (Or.inr (Or.inl (⟨h1, rfl, rfl⟩))))
    · skip
      refine zzx_catch (pc := 4) (name := "java/lang/IllegalArgumentException") C (tableOf [(0, 15, 16, 14)]) (⟨0, 15, 21, 31⟩ : ExceptionTableEntry) (tableOf [(0, 15, 26, 16)]) (htb.trans rfl) ?_ rfl (by decide) (C.ts kl_L_waitsFor_31) (zFace_moved (zFaces_ok _ (zIn_face (by decide))) (Vm.Alike.refl s.vm) (h8.2.2.2.1 _ (zIn_face (by decide)))) (fun qq => ?_)
      · intro z hz; rcases List.mem_singleton.mp hz with rfl; exact Or.inr ⟨by decide, "java/lang/IndexOutOfBoundsException", C.ts kl_L_waitsFor_14, h8.2.2.2.2.1 _ (by decide) _ (by decide) (by decide)⟩
      · skip
        refine zz_astore (pc := 21) C dL_waitsFor_21 (Nat.le_of_ble_eq_true rfl) ?_
        refine zz_bipush (pc := 23) C (v := -20) (by decide) dL_waitsFor_23 ?_
        exact zzx_ret (zz_ireturn (pc := 25) C dL_waitsFor_25 rfl (Nat.le_of_ble_eq_true rfl) (Nat.le_of_ble_eq_true rfl) (Or.inr (Or.inr (Or.inl (⟨h1, rfl, rfl⟩)))))
    · skip
      refine zzx_catch (pc := 4) (name := "java/lang/IllegalStateException") C (tableOf [(0, 15, 16, 14), (0, 15, 21, 31)]) (⟨0, 15, 26, 16⟩ : ExceptionTableEntry) (tableOf []) (htb.trans rfl) ?_ rfl (by decide) (C.ts kl_L_waitsFor_16) (zFace_moved (zFaces_ok _ (zIn_face (by decide))) (Vm.Alike.refl s.vm) (h8.2.2.2.1 _ (zIn_face (by decide)))) (fun qq => ?_)
      · intro z hz; rcases List.mem_cons.mp hz with rfl | hz; exact Or.inr ⟨by decide, "java/lang/IndexOutOfBoundsException", C.ts kl_L_waitsFor_14, h8.2.2.2.2.1 _ (by decide) _ (by decide) (by decide)⟩; rcases List.mem_singleton.mp hz with rfl; exact Or.inr ⟨by decide, "java/lang/IllegalArgumentException", C.ts kl_L_waitsFor_31, h8.2.2.2.2.1 _ (by decide) _ (by decide) (by decide)⟩
      · skip
        refine zz_astore (pc := 26) C dL_waitsFor_26 (Nat.le_of_ble_eq_true rfl) ?_
        refine zz_bipush (pc := 28) C (v := -10) (by decide) dL_waitsFor_28 ?_
        exact zzx_ret (zz_ireturn (pc := 30) C dL_waitsFor_30 rfl (Nat.le_of_ble_eq_true rfl) (Nat.le_of_ble_eq_true rfl) (Or.inr (Or.inr (Or.inr (⟨h1, rfl, rfl⟩)))))
  rintro v G9 ⟨hth, rfl, hC1⟩
  refine zz_if_eq (pc := 7) C (tgt := 14) dL_waitsFor_7 (by decide) (fun hc7 => ?_) (fun hc7 => ?_)
  · refine zz_iconst (pc := 14) C (v := 0) (by decide) dL_waitsFor_14 ?_
    exact zzx_ret (zz_ireturn (pc := 15) C dL_waitsFor_15 rfl (Nat.le_of_ble_eq_true rfl) (Nat.le_of_ble_eq_true rfl) (Or.inl ⟨hth, (by rw [if_pos hc7]), hC1⟩))
  · refine zz_iconst (pc := 10) C (v := 1) (by decide) dL_waitsFor_10 ?_
    refine zz_goto (pc := 11) C (tgt := 15) dL_waitsFor_11 (by decide) ?_
    exact zzx_ret (zz_ireturn (pc := 15) C dL_waitsFor_15 rfl (Nat.le_of_ble_eq_true rfl) (Nat.le_of_ble_eq_true rfl) (Or.inl ⟨hth, (by rw [if_neg hc7]), hC1⟩))
