/-! the law's wrappers -/
theorem zCl.mv {B G G' : zG} {x tb ev : Nat} {A : Nat → Nat} {σ : zS} {q : List zEv} {h m : Nat} (hC : zCl B x tb ev A σ q h m G) (hk : ∀ (a : Nat) (e : zE), G a = some (1, e) → G' a = some (1, e)) : zCl G' x tb ev A σ q h m G' := by
  obtain ⟨hm, ka, pa, F, fk, fp, ck, cp, c1, c2, c3, ⟨c4, c5, c6, c7⟩, c8, c9⟩ := hC
  refine ⟨hm, ka, pa, F, fk, fp, ck, cp, zFr.rf, hk _ _ c2, hk _ _ c3, ⟨hk _ _ c4, hk _ _ c5, hk _ _ c6, c7⟩, c8, fun k h1 h2 => ?_⟩
  obtain ⟨a, g1, g2, g3⟩ := c9 k h1 h2
  exact ⟨a, g1, hk _ _ g2, g3⟩
theorem zMod.mv {B G G' : zG} {y : Nat} {ma : Nat → Nat} {σ : zS} {q : List zEv} {th : Int32} (h : zMod B y ma σ q th G) (hk : ∀ (a : Nat) (e : zE), G a = some (2, e) → G' a = some (2, e)) : zMod G' y ma σ q th G' := by
  obtain ⟨r, ⟨h1, h2, h3, h4⟩, h5⟩ := h
  exact ⟨r, ⟨zFr.rf, hk _ _ h2, fun k a b => hk _ _ (h3 k a b), h4⟩, h5⟩
theorem zCl.fr {B G : zG} {x tb ev : Nat} {A : Nat → Nat} {σ : zS} {q : List zEv} {h m : Nat} (hC : zCl B x tb ev A σ q h m G) : zFr 1 B G := by
  obtain ⟨hm, ka, pa, F, fk, fp, ck, cp, c1, c2⟩ := hC
  exact c1
theorem zMod.fr {B G : zG} {y : Nat} {ma : Nat → Nat} {σ : zS} {q : List zEv} {th : Int32} (h : zMod B y ma σ q th G) : zFr 2 B G := by
  obtain ⟨r, h1, h2⟩ := h
  exact h1.1
abbrev zOut (w : Nat → Int64) : Nat × zE := (3, .inl (.long, 1, .inr (.inl w)))
def zWP (G : zG) (x tb ev o : Nat) (σ σ1 : zS) (m m1 : Nat) (TH : Int32) (val : Option Int64) (G9 : zG) : Prop :=
  (∃ A9 : Nat → Nat, zCl G9 x tb ev A9 (if TH = 0 then σ1 else σ) [] 0 (if TH = 0 then m1 else m) G9) ∧ (∃ w9 : Nat → Int64, G9 o = some (zOut w9) ∧ (TH = 0 → ∀ z, val = some z → w9 0 = z)) ∧ ∀ (a : Nat) (e : zE), G a = some (2, e) → G9 a = some (2, e)
theorem zU_keep {G : zG} {o t : Nat} {w : Nat → Int64} {e1 : Nat × zE} (ho : G o = some (zOut w)) (ht : t ≠ 3) (a : Nat) (e : zE) (h : G a = some (t, e)) : zU G o e1 a = some (t, e) := by
  have : a ≠ o := fun z => by
    rw [z, ho] at h
    exact ht (congrArg (fun q : Nat × zE => q.1) (Option.some.inj h)).symm
  rw [zU_ne this]
  exact h
theorem zWP_1 {G G1 : zG} {x tb ev o : Nat} {A9 : Nat → Nat} {σ σ1 : zS} {m m1 : Nat} {TH : Int32} {val : Option Int64} {w : Nat → Int64} {z : Int64} {i : Int32} (hC : zCl G x tb ev A9 σ1 [] 0 m1 G1) (ho : G1 o = some (zOut w)) (h0 : TH = 0) (hz : val = some z) (hi : i.toNatClampNeg = 0) : zWP G x tb ev o σ σ1 m m1 TH val (zU G1 o (3, .inl (.long, 1, .inr (.inl (vp_updL w i.toNatClampNeg z))))) := by
  refine ⟨⟨A9, ?_⟩, ⟨_, zU_self, fun _ z9 h9 => ?_⟩, fun a e he => zU_keep ho (by decide) a e (hC.fr a 2 e he (by decide))⟩
  · rw [if_pos h0, if_pos h0]
    exact hC.mv (zU_keep ho (by decide))
  · rw [hz] at h9
    rw [hi]
    exact (if_pos rfl).trans (Option.some.inj h9)
theorem zWP_1n {G G1 : zG} {x tb ev o : Nat} {A9 : Nat → Nat} {σ σ1 : zS} {m m1 : Nat} {TH : Int32} {w : Nat → Int64} (hC : zCl G x tb ev A9 σ1 [] 0 m1 G1) (ho : G o = some (zOut w)) (h0 : TH = 0) : zWP G x tb ev o σ σ1 m m1 TH none G1 := by
  refine ⟨⟨A9, ?_⟩, ⟨_, hC.fr o 3 _ ho (by decide), fun _ z9 h9 => by cases h9⟩, fun a e he => hC.fr a 2 e he (by decide)⟩
  rw [if_pos h0, if_pos h0]
  exact hC.mv (fun a e h => h)
theorem zWP_0 {G : zG} {x tb ev o : Nat} {A9 : Nat → Nat} {σ σ1 : zS} {m m1 : Nat} {TH : Int32} {val : Option Int64} {w : Nat → Int64} (hC : zCl G x tb ev A9 σ [] 0 m G) (ho : G o = some (zOut w)) (h0 : TH ≠ 0) : zWP G x tb ev o σ σ1 m m1 TH val G := by
  refine ⟨⟨A9, ?_⟩, ⟨_, ho, fun z => absurd z h0⟩, fun a e he => he⟩
  rw [if_neg h0, if_neg h0]
  exact hC
theorem zIn_face {X : String} (h : X ∈ zCls3) : Cond.castable X X ∈ zFaces := List.mem_append_left _ (List.mem_map.mpr ⟨X, h, rfl⟩)
theorem kl_L_fork_13 : Cond.classLink RL 13 "java/lang/IndexOutOfBoundsException" ∈ wsL_fork := by decide +kernel
theorem kl_L_fork_15 : Cond.classLink RL 15 "java/lang/IllegalStateException" ∈ wsL_fork := by decide +kernel
set_option maxHeartbeats 4000000 in
set_option maxRecDepth 100000 in
theorem c_L_fork (l : Launch) (hl : l.stackTraces = false) (D : va_G) {G : zG} {x tb ev : Nat} {A : Nat → Nat} {σ : zS} {m0 : Nat} {x9 : Int32} {o : Nat} {w : Nat → Int64} (hC : zCl G x tb ev A σ [] 0 m0 G) (hW : zWf σ) (ho : G o = some (zOut w)) : zxMet D l yL_fork wsL_fork ({ frames := 8, cells := 3, slots := 40, locals := 136 } : Room) [.ref x, .int x9, .ref o] G (fun v G9 => v = some (.int (zE2 (¬ zHere σ x9) (¬ zRunN σ (pn x9) ∨ zFreeV σ = -1))) ∧ zWP G x tb ev o σ (zFork σ x9 (pn (zFreeV σ))) m0 m0 (zE2 (¬ zHere σ x9) (¬ zRunN σ (pn x9) ∨ zFreeV σ = -1)) (some ((zFreeV σ)).toInt64) G9) (fun _ => False) := by
  refine zxMet_ofH (cc := cL_fork) (maxL := 4) (ret := (some .int)) (hh := [(0, 9, 12, 13), (0, 9, 15, 15)]) (by decide) rfl (Nat.le_of_ble_eq_true rfl) ?_
  intro p e s m args below meth c C htb h8
  refine zz_aload_n (pc := 0) C dL_fork_0 rfl ?_
  refine zz_iconst (pc := 1) C (v := 0) (by decide) dL_fork_1 ?_
  refine zz_aload_n (pc := 2) C dL_fork_2 rfl ?_
  refine zz_iload_n (pc := 3) C dL_fork_3 rfl ?_
  refine zzx_callV (pc := 4) C h8 (c_X2_fork l hl D (B := G) (G := G) hC hW) gL_fork_X2_fork rfl 1 (by decide +kernel) ⟨Nat.le_of_ble_eq_true rfl, Nat.le_of_ble_eq_true rfl⟩ hC.x (ci := 2) rfl rfl rfl dL_fork_4 rfl (Nat.le_of_ble_eq_true rfl) rfl ⟨Nat.le_of_ble_eq_true rfl, Nat.le_of_ble_eq_true rfl⟩ (fun E hE => ?_) ?_
  · skip
    rcases hE with ⟨h1, rfl⟩ | ⟨h1, rfl⟩
    · skip
      refine zzx_catch (pc := 4) (name := "java/lang/IndexOutOfBoundsException") C (tableOf []) (⟨0, 9, 12, 13⟩ : ExceptionTableEntry) (tableOf [(0, 9, 15, 15)]) (htb.trans rfl) ?_ rfl (by decide) (C.ts kl_L_fork_13) (zFace_moved (zFaces_ok _ (zIn_face (by decide))) (Vm.Alike.refl s.vm) (h8.2.2.2.1 _ (zIn_face (by decide)))) (fun qq => ?_)
      · exact fun z hz => absurd hz List.not_mem_nil
      · skip
        refine zz_astore_n (pc := 12) C dL_fork_12 (Nat.le_of_ble_eq_true rfl) ?_
        refine zz_iconst (pc := 13) C (v := 1) (by decide) dL_fork_13 ?_
        exact zzx_ret (zz_ireturn (pc := 14) C dL_fork_14 rfl (Nat.le_of_ble_eq_true rfl) (Nat.le_of_ble_eq_true rfl) ⟨by rw [h1], zWP_0 hC ho (by rw [h1]; decide)⟩)
    · skip
      refine zzx_catch (pc := 4) (name := "java/lang/IllegalStateException") C (tableOf [(0, 9, 12, 13)]) (⟨0, 9, 15, 15⟩ : ExceptionTableEntry) (tableOf []) (htb.trans rfl) ?_ rfl (by decide) (C.ts kl_L_fork_15) (zFace_moved (zFaces_ok _ (zIn_face (by decide))) (Vm.Alike.refl s.vm) (h8.2.2.2.1 _ (zIn_face (by decide)))) (fun qq => ?_)
      · intro z hz; rcases List.mem_singleton.mp hz with rfl; exact Or.inr ⟨by decide, "java/lang/IndexOutOfBoundsException", C.ts kl_L_fork_13, h8.2.2.2.2.1 _ (by decide) _ (by decide) (by decide)⟩
      · skip
        refine zz_astore_n (pc := 15) C dL_fork_15 (Nat.le_of_ble_eq_true rfl) ?_
        refine zz_iconst (pc := 16) C (v := 2) (by decide) dL_fork_16 ?_
        exact zzx_ret (zz_ireturn (pc := 17) C dL_fork_17 rfl (Nat.le_of_ble_eq_true rfl) (Nat.le_of_ble_eq_true rfl) ⟨by rw [h1], zWP_0 hC ho (by rw [h1]; decide)⟩)
  rintro v G9 ⟨hth, rfl, A9, hC1⟩
  refine zz_i2l (pc := 7) C dL_fork_7 ?_
  refine zz_last (pc := 8) C dL_fork_8 (n := 1) (hC1.fr o 3 _ ho (by decide)) (by unfold vp_in; decide) ?_
  refine zz_goto (pc := 9) C (tgt := 18) dL_fork_9 (by decide) ?_
  refine zz_iconst (pc := 18) C (v := 0) (by decide) dL_fork_18 ?_
  exact zzx_ret (zz_ireturn (pc := 19) C dL_fork_19 rfl (Nat.le_of_ble_eq_true rfl) (Nat.le_of_ble_eq_true rfl) ⟨by rw [hth], zWP_1 hC1 (hC1.fr o 3 _ ho (by decide)) hth rfl rfl⟩)
theorem kl_L_exec_13 : Cond.classLink RL 13 "java/lang/IndexOutOfBoundsException" ∈ wsL_exec := by decide +kernel
theorem kl_L_exec_15 : Cond.classLink RL 15 "java/lang/IllegalStateException" ∈ wsL_exec := by decide +kernel
set_option maxHeartbeats 4000000 in
set_option maxRecDepth 100000 in
theorem c_L_exec (l : Launch) (hl : l.stackTraces = false) (D : va_G) {G : zG} {x tb ev : Nat} {A : Nat → Nat} {σ : zS} {m0 : Nat} {x9 : Int32} {o : Nat} {w : Nat → Int64} (hC : zCl G x tb ev A σ [] 0 m0 G)  (ho : G o = some (zOut w)) : zxMet D l yL_exec wsL_exec ({ frames := 8, cells := 2, slots := 12, locals := 134 } : Room) [.ref x, .int x9, .ref o] G (fun v G9 => v = some (.int (zE2 (¬ zHere σ x9) (zNot σ (pn x9)))) ∧ zWP G x tb ev o σ (zExecN σ (pn x9) 9) m0 m0 (zE2 (¬ zHere σ x9) (zNot σ (pn x9))) (some ((nI (zCatN σ (pn x9) 9))).toInt64) G9) (fun _ => False) := by
  refine zxMet_ofH (cc := cL_exec) (maxL := 4) (ret := (some .int)) (hh := [(0, 9, 12, 13), (0, 9, 15, 15)]) (by decide) rfl (Nat.le_of_ble_eq_true rfl) ?_
  intro p e s m args below meth c C htb h8
  refine zz_aload_n (pc := 0) C dL_exec_0 rfl ?_
  refine zz_iconst (pc := 1) C (v := 0) (by decide) dL_exec_1 ?_
  refine zz_aload_n (pc := 2) C dL_exec_2 rfl ?_
  refine zz_iload_n (pc := 3) C dL_exec_3 rfl ?_
  refine zzx_callV (pc := 4) C h8 (c_X2_exec l hl D (B := G) (G := G) hC ) gL_exec_X2_exec rfl 1 (by decide +kernel) ⟨Nat.le_of_ble_eq_true rfl, Nat.le_of_ble_eq_true rfl⟩ hC.x (ci := 2) rfl rfl rfl dL_exec_4 rfl (Nat.le_of_ble_eq_true rfl) rfl ⟨Nat.le_of_ble_eq_true rfl, Nat.le_of_ble_eq_true rfl⟩ (fun E hE => ?_) ?_
  · skip
    rcases hE with ⟨h1, rfl⟩ | ⟨h1, rfl⟩
    · skip
      refine zzx_catch (pc := 4) (name := "java/lang/IndexOutOfBoundsException") C (tableOf []) (⟨0, 9, 12, 13⟩ : ExceptionTableEntry) (tableOf [(0, 9, 15, 15)]) (htb.trans rfl) ?_ rfl (by decide) (C.ts kl_L_exec_13) (zFace_moved (zFaces_ok _ (zIn_face (by decide))) (Vm.Alike.refl s.vm) (h8.2.2.2.1 _ (zIn_face (by decide)))) (fun qq => ?_)
      · exact fun z hz => absurd hz List.not_mem_nil
      · skip
        refine zz_astore_n (pc := 12) C dL_exec_12 (Nat.le_of_ble_eq_true rfl) ?_
        refine zz_iconst (pc := 13) C (v := 1) (by decide) dL_exec_13 ?_
        exact zzx_ret (zz_ireturn (pc := 14) C dL_exec_14 rfl (Nat.le_of_ble_eq_true rfl) (Nat.le_of_ble_eq_true rfl) ⟨by rw [h1], zWP_0 hC ho (by rw [h1]; decide)⟩)
    · skip
      refine zzx_catch (pc := 4) (name := "java/lang/IllegalStateException") C (tableOf [(0, 9, 12, 13)]) (⟨0, 9, 15, 15⟩ : ExceptionTableEntry) (tableOf []) (htb.trans rfl) ?_ rfl (by decide) (C.ts kl_L_exec_15) (zFace_moved (zFaces_ok _ (zIn_face (by decide))) (Vm.Alike.refl s.vm) (h8.2.2.2.1 _ (zIn_face (by decide)))) (fun qq => ?_)
      · intro z hz; rcases List.mem_singleton.mp hz with rfl; exact Or.inr ⟨by decide, "java/lang/IndexOutOfBoundsException", C.ts kl_L_exec_13, h8.2.2.2.2.1 _ (by decide) _ (by decide) (by decide)⟩
      · skip
        refine zz_astore_n (pc := 15) C dL_exec_15 (Nat.le_of_ble_eq_true rfl) ?_
        refine zz_iconst (pc := 16) C (v := 2) (by decide) dL_exec_16 ?_
        exact zzx_ret (zz_ireturn (pc := 17) C dL_exec_17 rfl (Nat.le_of_ble_eq_true rfl) (Nat.le_of_ble_eq_true rfl) ⟨by rw [h1], zWP_0 hC ho (by rw [h1]; decide)⟩)
  rintro v G9 ⟨hth, rfl, hC1⟩
  refine zz_i2l (pc := 7) C dL_exec_7 ?_
  refine zz_last (pc := 8) C dL_exec_8 (n := 1) (hC1.fr o 3 _ ho (by decide)) (by unfold vp_in; decide) ?_
  refine zz_goto (pc := 9) C (tgt := 18) dL_exec_9 (by decide) ?_
  refine zz_iconst (pc := 18) C (v := 0) (by decide) dL_exec_18 ?_
  exact zzx_ret (zz_ireturn (pc := 19) C dL_exec_19 rfl (Nat.le_of_ble_eq_true rfl) (Nat.le_of_ble_eq_true rfl) ⟨by rw [hth], zWP_1 hC1 (hC1.fr o 3 _ ho (by decide)) hth rfl rfl⟩)
