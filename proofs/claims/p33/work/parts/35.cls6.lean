section ZTC
variable {p : Program} {l : Launch} {e : Env} {R : Room} {s : State} {m : MethodId} {args : Array Value} {below : List Frame} {meth : Method} {c : Code} {D : va_G} {A9 : Nat → Prop} {cells slots : Nat} {Q : State → Prop} {G : zG} {pc : Nat} {L : List (Option Value)} {st : List Value}
variable {cc : ByteArray} {nL : Nat} {own : String} {Ts : List Cond} {ret : Option FieldType}
variable {B : zG} {x tb ev : Nat} {A : Nat → Nat} {σ : zS} {q : List zEv} {h m0 : Nat}
theorem zz_tldC (C : zC p s m args meth c D A9 cc nL own Ts ret) (hC : zCl B x tb ev A σ q h m0 G) (hdg : decode cc pc = .ok (.aaload, 1)) {k : Nat} (hk : k < 41) {i : Int32} (hi : i = nI k)
    (kn : σ 0 k = 0 → zV p l e R s m args below meth c D A9 cells slots Q G (pc + 1) L (.null :: st)) (kk : σ 0 k ≠ 0 → zV p l e R s m args below meth c D A9 cells slots Q G (pc + 1) L (.ref (A k) :: st)) : zV p l e R s m args below meth c D A9 cells slots Q G pc L (.int i :: .ref tb :: st) := by
  subst hi
  have hn : (nI k).toNatClampNeg = k := nI_clamp (by omega)
  refine zz_aald C hdg hC.tbl (vp_in_nI hk (by decide)) (fun z => kn ?_) (fun b z => ?_)
  · rw [hn] at z
    by_cases h0 : σ 0 k = 0
    · exact h0
    · rw [zTA_y h0] at z
      cases z
  · rw [hn] at z
    obtain ⟨h1, h2⟩ := zTA_at z
    rw [h1]
    exact kk h2
theorem zz_tlnC (C : zC p s m args meth c D A9 cc nL own Ts ret) (hC : zCl B x tb ev A σ q h m0 G) (hdg : decode cc pc = .ok (.arraylength, 1)) (kk : zV p l e R s m args below meth c D A9 cells slots Q G (pc + 1) L (.int (nI 41) :: st)) : zV p l e R s m args below meth c D A9 cells slots Q G pc L (.ref tb :: st) := zz_alen C hdg hC.tbl kk
end ZTC
theorem zCond_1 {σ : zS} {k : Nat} {f : Nat → Int32} (hf : zPF σ k f) : zCond f = 1 ↔ (σ 4 k = 0 ∧ σ 5 k = 0 ∧ σ 6 k ≠ 0) := by
  unfold zCond
  rw [hf.2.2.2.2.1, hf.2.2.2.2.2.1, hf.2.2.2.2.2.2.1]
  by_cases h4 : σ 4 k = 0
  · by_cases h5 : σ 5 k = 0
    · by_cases h6 : σ 6 k = 0
      · simp [h4, h5, h6]
      · simp [h4, h5, h6]
    · simp [h4, h5]
  · simp [h4]
/-- what a check of a wait needs -/
def zWt (σ : zS) : Prop := (∀ k, k < 41 → σ 0 k ≠ 0 → σ 4 k ≠ 0 → σ 6 k = 0 ∧ σ 5 k = 0 ∧ (σ 14 k = 0 ∨ σ 14 k = 1)) ∧ ∀ k, k < 41 → σ 0 k ≠ 0 → σ 4 k ≠ 0 → ∀ j, j < 41 → j ≠ k → σ 0 j ≠ 0 → j ≠ 1 → pn (σ 1 j) ≠ k
theorem zCheck_best {σ : zS} {p b : Nat} (h : ¬ (σ 6 p = 0 ∨ σ 5 p ≠ 0)) (hb : b < 41) (hr : zRep σ p b) (hl : ∀ k, k < b → ¬ zRep σ p k) : zCheck σ p = if σ 4 b ≠ 0 then zu (zEnds σ p (σ 14 b) (nI b) (σ 15 b)) 0 b 0 else zu (zEnds σ p 2 (nI b) (σ 16 b)) 17 b 0 := by
  unfold zCheck
  rw [if_neg h, zBest_some hb hr hl]
theorem fl_X2_checkWait_11 : Cond.fieldLink RX2 11 "Signalpost" "table" "[LSignalpost$Proc;" ∈ wsX2_checkWait := by decide +kernel
theorem in_X2_checkWait_X2 : ∀ w ∈ u_ws RX2 TX2 4, w ∈ wsX2_checkWait := by decide +kernel
set_option maxHeartbeats 4000000 in
set_option maxRecDepth 100000 in
theorem c_X2_checkWait (l : Launch) (D : va_G) {B G : zG} {x tb ev : Nat} {A : Nat → Nat} {σ : zS} {q : List zEv} {h m0 : Nat} {p9 : Nat} (hC : zCl B x tb ev A σ q h m0 G) (hH : zHas σ) (hW : zWt σ) (hp : p9 < 41) (hp0 : σ 0 p9 ≠ 0) : zMet D l yX2_checkWait wsX2_checkWait ({ frames := 2, cells := 0, slots := 0, locals := 45 } : Room) [.ref x, .ref (A p9)] G (fun v G9 => v = none ∧ zCl B x tb ev A (zCheck σ p9) q h m0 G9) := by
  refine zMet_of (cc := cX2_checkWait) (maxL := 7) (ret := none) (by decide) rfl (Nat.le_of_ble_eq_true rfl) ?_
  intro p e s m args below meth c C hmn
  obtain ⟨z0, hz0⟩ : ∃ z0 : Nat, z0 = 0 := ⟨0, rfl⟩
  obtain ⟨f, hGp, hPp, hup⟩ := hC.at hp hp0
  by_cases hid : σ 6 p9 = 0 ∨ σ 5 p9 ≠ 0
  · skip
    refine zz_aload_n (pc := 0) C dX2_checkWait_0 rfl ?_
    refine zz_callV (pc := 1) C (c_X1_condition l D hGp) gX2_checkWait_X1_condition rfl 0 (by decide +kernel) ⟨Nat.le_of_ble_eq_true rfl, Nat.le_of_ble_eq_true rfl⟩ hGp (ci := 1) rfl rfl rfl dX2_checkWait_1 rfl (Nat.le_of_ble_eq_true rfl) rfl ⟨Nat.le_of_ble_eq_true rfl, Nat.le_of_ble_eq_true rfl⟩ ?_
    rintro v G9 ⟨rfl, rfl⟩
    refine zz_iconst (pc := 4) C (v := 1) (by decide) dX2_checkWait_4 ?_
    refine zz_icmp_eq (pc := 5) C (tgt := 9) dX2_checkWait_5 (by decide) (fun hc5 => ?_) (fun hc5 => ?_)
    · exact absurd ((zCond_1 hPp).mp hc5) (fun z => hid.elim z.2.2 (fun u => u z.2.1))
    · exact zz_return (pc := 8) C dX2_checkWait_8 (Nat.le_refl _) (Nat.le_refl _) ⟨rfl, by rw [zCheck_idle hid]; exact hC⟩
  · have hw : σ 6 p9 ≠ 0 := fun z => hid (Or.inl z)
    have h5 : σ 5 p9 = 0 := Classical.not_not.mp (fun z => hid (Or.inr z))
    have h4 : σ 4 p9 = 0 := Classical.not_not.mp (fun z => hw (hW.1 p9 hp hp0 z).1)
    have loop : ∀ (n i : Nat), i + n = 41 → (∀ k, k < i → ¬ zRep σ p9 k) → zV p l e ({ frames := 2, cells := 0, slots := 0, locals := 45 } : Room) s m args below meth c D (zA G s.heap.size) 0 0 (zZ below D G (fun v G9 => v = none ∧ zCl B x tb ev A (zCheck σ p9) q h m0 G9) args s ({ frames := 2, cells := 0, slots := 0, locals := 45 } : Room)) G 23 [some (.ref x), some (.ref (A p9)), some (.int (zb (∀ k, k < i → ¬ zKid σ p9 k))), some (.ref tb), some (.int (nI 41)), some (.int (nI (i))), none] [] := by
      intro n
      induction n with
      | zero =>
        intro i hi hinv
        have hi41 : i = 41 := by omega
        subst hi41
        refine zz_iload (pc := 23) C dX2_checkWait_23 rfl ?_
        refine zz_iload (pc := 25) C dX2_checkWait_25 rfl ?_
        refine zz_icmp_ge (pc := 27) C (tgt := 75) dX2_checkWait_27 (by decide) (fun hc27 => ?_) (fun hc27 => ?_)
        · refine zz_iload_n (pc := 75) C dX2_checkWait_75 rfl ?_
          refine zz_if_eq (pc := 76) C (tgt := 86) dX2_checkWait_76 (by decide) (fun hc76 => ?_) (fun hc76 => ?_)
          · first
              | exact zz_return (pc := 86) C dX2_checkWait_86 (Nat.le_refl _) (Nat.le_refl _) ⟨rfl, by rw [zCheck_none hid (zb_ne.mp hc76)]; exact hC2⟩
              | exact zz_return (pc := 86) C dX2_checkWait_86 (Nat.le_refl _) (Nat.le_refl _) ⟨rfl, by rw [zCheck_wait hinv (zb_eq.mp hc76)]; exact hC⟩
          · refine zz_aload_n (pc := 79) C dX2_checkWait_79 rfl ?_
            refine zz_iconst (pc := 80) C (v := 4) (by decide) dX2_checkWait_80 ?_
            refine zz_iconst (pc := 81) C (v := -1) (by decide) dX2_checkWait_81 ?_
            refine zz_iconst (pc := 82) C (v := -1) (by decide) dX2_checkWait_82 ?_
            refine zz_callV (pc := 83) C (c_X1_endWait l D hGp) gX2_checkWait_X1_endWait rfl 3 (by decide +kernel) ⟨Nat.le_of_ble_eq_true rfl, Nat.le_of_ble_eq_true rfl⟩ hGp (ci := 1) rfl rfl rfl dX2_checkWait_83 rfl (Nat.le_of_ble_eq_true rfl) rfl ⟨Nat.le_of_ble_eq_true rfl, Nat.le_of_ble_eq_true rfl⟩ ?_
            rintro v G9 ⟨rfl, rfl⟩
            have hC2 := hup _ _ (zOwn_ends (r := 4) (c := -1) (v := -1)) (zPF_ends hPp)
            first
              | exact zz_return (pc := 86) C dX2_checkWait_86 (Nat.le_refl _) (Nat.le_refl _) ⟨rfl, by rw [zCheck_none hid (zb_ne.mp hc76)]; exact hC2⟩
              | exact zz_return (pc := 86) C dX2_checkWait_86 (Nat.le_refl _) (Nat.le_refl _) ⟨rfl, by rw [zCheck_wait hinv (zb_eq.mp hc76)]; exact hC⟩
        · exact absurd z4141 hc27
      | succ n ih =>
        intro i hi hinv
        refine zz_iload (pc := 23) C dX2_checkWait_23 rfl ?_
        refine zz_iload (pc := 25) C dX2_checkWait_25 rfl ?_
        refine zz_icmp_ge (pc := 27) C (tgt := 75) dX2_checkWait_27 (by decide) (fun hc27 => ?_) (fun hc27 => ?_)
        · exact absurd hc27 (z41i (by omega))
        · refine zz_aload_n (pc := 30) C dX2_checkWait_30 rfl ?_
          refine zz_iload (pc := 31) C dX2_checkWait_31 rfl ?_
          refine zz_tldC (pc := 33) C hC dX2_checkWait_33 (k := i) (by omega) rfl (fun hno => ?_) (fun hth => ?_)
          · skip
            refine zz_astoreN (pc := 34) C dX2_checkWait_34 (Nat.le_of_ble_eq_true rfl) ?_
            refine zz_aloadN (pc := 36) C dX2_checkWait_36 rfl ?_
            refine zz_ifnullN (pc := 38) C (tgt := 69) dX2_checkWait_38 (by decide) ?_
            refine zz_iinc (pc := 69) C dX2_checkWait_69 rfl ?_
            refine zz_goto (pc := 72) C (tgt := 23) dX2_checkWait_72 (by decide) ?_
            first
              | exact zV.less (L' := [some (.ref x), some (.ref (A p9)), some (.int (zb (∀ k, k < i + 1 → ¬ zKid σ p9 k))), some (.ref tb), some (.int (nI 41)), some (.int (nI (i + 1))), none]) ⟨rfl, rfl, zvi (zb_congr (zAll_succ.trans ⟨fun z => z.1, fun z => ⟨z, fun u => u.1 hno⟩⟩)).symm, rfl, rfl, zvi (z1i i), trivial⟩ (ih (i + 1) (by omega) (zAll_succ.mpr ⟨hinv, fun u => u.1.1 hno⟩))
              | exact zV.less (L' := [some (.ref x), some (.ref (A p9)), some (.int (zb (∀ k, k < i + 1 → ¬ zKid σ p9 k))), some (.ref tb), some (.int (nI 41)), some (.int (nI (i + 1))), none]) ⟨rfl, rfl, zvi (zb_congr (zAll_succ.trans ⟨fun z => z.1, fun z => ⟨z, zb_eq.mp hc47⟩⟩)).symm, rfl, rfl, zvi (z1i i), trivial⟩ (ih (i + 1) (by omega) (zAll_succ.mpr ⟨hinv, fun u => zb_eq.mp hc47 u.1⟩))
              | exact zV.less (L' := [some (.ref x), some (.ref (A p9)), some (.int (zb (∀ k, k < i + 1 → ¬ zKid σ p9 k))), some (.ref tb), some (.int (nI 41)), some (.int (nI (i + 1))), none]) ⟨rfl, rfl, zvf (fun z => (zAll_succ.mp z).2 (zbp hc47)), rfl, rfl, zvi (z1i i), trivial⟩ (ih (i + 1) (by omega) (zAll_succ.mpr ⟨hinv, fun u => zb_eq.mp hc58 u.2⟩))
          · skip
            refine zz_astore (pc := 34) C dX2_checkWait_34 (Nat.le_of_ble_eq_true rfl) ?_
            refine zz_aload (pc := 36) C dX2_checkWait_36 rfl ?_
            refine zz_ifnull (pc := 38) C dX2_checkWait_38 ?_
            refine zz_aload_n (pc := 41) C dX2_checkWait_41 rfl ?_
            refine zz_aload (pc := 42) C dX2_checkWait_42 rfl ?_
            refine zz_callV (pc := 44) C (c_clAw l D hC hH hp (k := i) (by omega) hp0 hth hw) gX2_checkWait_X1_awaits rfl 1 (by decide +kernel) ⟨Nat.le_of_ble_eq_true rfl, Nat.le_of_ble_eq_true rfl⟩ hGp (ci := 1) rfl rfl rfl dX2_checkWait_44 rfl (Nat.le_of_ble_eq_true rfl) rfl ⟨Nat.le_of_ble_eq_true rfl, Nat.le_of_ble_eq_true rfl⟩ ?_
            rintro v G9 ⟨rfl, rfl⟩
            refine zz_if_eq (pc := 47) C (tgt := 69) dX2_checkWait_47 (by decide) (fun hc47 => ?_) (fun hc47 => ?_)
            · refine zz_iinc (pc := 69) C dX2_checkWait_69 rfl ?_
              refine zz_goto (pc := 72) C (tgt := 23) dX2_checkWait_72 (by decide) ?_
              first
                | exact zV.less (L' := [some (.ref x), some (.ref (A p9)), some (.int (zb (∀ k, k < i + 1 → ¬ zKid σ p9 k))), some (.ref tb), some (.int (nI 41)), some (.int (nI (i + 1))), none]) ⟨rfl, rfl, zvi (zb_congr (zAll_succ.trans ⟨fun z => z.1, fun z => ⟨z, fun u => u.1 hno⟩⟩)).symm, rfl, rfl, zvi (z1i i), trivial⟩ (ih (i + 1) (by omega) (zAll_succ.mpr ⟨hinv, fun u => u.1.1 hno⟩))
                | exact zV.less (L' := [some (.ref x), some (.ref (A p9)), some (.int (zb (∀ k, k < i + 1 → ¬ zKid σ p9 k))), some (.ref tb), some (.int (nI 41)), some (.int (nI (i + 1))), none]) ⟨rfl, rfl, zvi (zb_congr (zAll_succ.trans ⟨fun z => z.1, fun z => ⟨z, zb_eq.mp hc47⟩⟩)).symm, rfl, rfl, zvi (z1i i), trivial⟩ (ih (i + 1) (by omega) (zAll_succ.mpr ⟨hinv, fun u => zb_eq.mp hc47 u.1⟩))
                | exact zV.less (L' := [some (.ref x), some (.ref (A p9)), some (.int (zb (∀ k, k < i + 1 → ¬ zKid σ p9 k))), some (.ref tb), some (.int (nI 41)), some (.int (nI (i + 1))), none]) ⟨rfl, rfl, zvf (fun z => (zAll_succ.mp z).2 (zbp hc47)), rfl, rfl, zvi (z1i i), trivial⟩ (ih (i + 1) (by omega) (zAll_succ.mpr ⟨hinv, fun u => zb_eq.mp hc58 u.2⟩))
            · refine zz_iconst (pc := 50) C (v := 0) (by decide) dX2_checkWait_50 ?_
              refine zz_istore_n (pc := 51) C dX2_checkWait_51 (Nat.le_of_ble_eq_true rfl) ?_
              refine zz_aload_n (pc := 52) C dX2_checkWait_52 rfl ?_
              refine zz_aload (pc := 53) C dX2_checkWait_53 rfl ?_
              refine zz_callV (pc := 55) C (c_clCan l D hC hp (k := i) (by omega) hp0 hth hw (fun z => (hW.1 i (by omega) hth z).2.2)) gX2_checkWait_X1_canReport rfl 1 (by decide +kernel) ⟨Nat.le_of_ble_eq_true rfl, Nat.le_of_ble_eq_true rfl⟩ hGp (ci := 1) rfl rfl rfl dX2_checkWait_55 rfl (Nat.le_of_ble_eq_true rfl) rfl ⟨Nat.le_of_ble_eq_true rfl, Nat.le_of_ble_eq_true rfl⟩ ?_
              rintro v G9 ⟨rfl, rfl⟩
              refine zz_if_eq (pc := 58) C (tgt := 69) dX2_checkWait_58 (by decide) (fun hc58 => ?_) (fun hc58 => ?_)
              · refine zz_iinc (pc := 69) C dX2_checkWait_69 rfl ?_
                refine zz_goto (pc := 72) C (tgt := 23) dX2_checkWait_72 (by decide) ?_
                first
                  | exact zV.less (L' := [some (.ref x), some (.ref (A p9)), some (.int (zb (∀ k, k < i + 1 → ¬ zKid σ p9 k))), some (.ref tb), some (.int (nI 41)), some (.int (nI (i + 1))), none]) ⟨rfl, rfl, zvi (zb_congr (zAll_succ.trans ⟨fun z => z.1, fun z => ⟨z, fun u => u.1 hno⟩⟩)).symm, rfl, rfl, zvi (z1i i), trivial⟩ (ih (i + 1) (by omega) (zAll_succ.mpr ⟨hinv, fun u => u.1.1 hno⟩))
                  | exact zV.less (L' := [some (.ref x), some (.ref (A p9)), some (.int (zb (∀ k, k < i + 1 → ¬ zKid σ p9 k))), some (.ref tb), some (.int (nI 41)), some (.int (nI (i + 1))), none]) ⟨rfl, rfl, zvi (zb_congr (zAll_succ.trans ⟨fun z => z.1, fun z => ⟨z, zb_eq.mp hc47⟩⟩)).symm, rfl, rfl, zvi (z1i i), trivial⟩ (ih (i + 1) (by omega) (zAll_succ.mpr ⟨hinv, fun u => zb_eq.mp hc47 u.1⟩))
                  | exact zV.less (L' := [some (.ref x), some (.ref (A p9)), some (.int (zb (∀ k, k < i + 1 → ¬ zKid σ p9 k))), some (.ref tb), some (.int (nI 41)), some (.int (nI (i + 1))), none]) ⟨rfl, rfl, zvf (fun z => (zAll_succ.mp z).2 (zbp hc47)), rfl, rfl, zvi (z1i i), trivial⟩ (ih (i + 1) (by omega) (zAll_succ.mpr ⟨hinv, fun u => zb_eq.mp hc58 u.2⟩))
              · refine zz_aload_n (pc := 61) C dX2_checkWait_61 rfl ?_
                refine zz_aload_n (pc := 62) C dX2_checkWait_62 rfl ?_
                refine zz_aload (pc := 63) C dX2_checkWait_63 rfl ?_
                refine zz_callV (pc := 65) C (c_X2_report l D hC hp (k := i) ⟨(hH.1 i (by omega) hth).1, by omega⟩ hp0 hth (fun z => (hW.1 i (by omega) hth z).2.2) (fun z => ((zbp hc58).resolve_left (fun u => u z)).2) (fun z => hW.2 i (by omega) hth z)) gX2_checkWait_X2_report rfl 2 (by decide +kernel) ⟨Nat.le_of_ble_eq_true rfl, Nat.le_of_ble_eq_true rfl⟩ hC.x (ci := 2) rfl rfl rfl dX2_checkWait_65 rfl (Nat.le_of_ble_eq_true rfl) rfl ⟨Nat.le_of_ble_eq_true rfl, Nat.le_of_ble_eq_true rfl⟩ ?_
                rintro v G9 ⟨rfl, hC3⟩
                exact zz_return (pc := 68) C dX2_checkWait_68 (Nat.le_refl _) (Nat.le_refl _) ⟨rfl, by rw [zCheck_best hid (by omega) ⟨zbp hc47, zbp hc58⟩ hinv]; exact hC3⟩
    refine zz_aload_n (pc := 0) C dX2_checkWait_0 rfl ?_
    refine zz_callV (pc := 1) C (c_X1_condition l D hGp) gX2_checkWait_X1_condition rfl 0 (by decide +kernel) ⟨Nat.le_of_ble_eq_true rfl, Nat.le_of_ble_eq_true rfl⟩ hGp (ci := 1) rfl rfl rfl dX2_checkWait_1 rfl (Nat.le_of_ble_eq_true rfl) rfl ⟨Nat.le_of_ble_eq_true rfl, Nat.le_of_ble_eq_true rfl⟩ ?_
    rintro v G9 ⟨rfl, rfl⟩
    refine zz_iconst (pc := 4) C (v := 1) (by decide) dX2_checkWait_4 ?_
    refine zz_icmp_eq (pc := 5) C (tgt := 9) dX2_checkWait_5 (by decide) (fun hc5 => ?_) (fun hc5 => ?_)
    · refine zz_iconst (pc := 9) C (v := 1) (by decide) dX2_checkWait_9 ?_
      refine zz_istore_n (pc := 10) C dX2_checkWait_10 (Nat.le_of_ble_eq_true rfl) ?_
      refine zz_aload_n (pc := 11) C dX2_checkWait_11 rfl ?_
      refine zz_get (pc := 12) C in_X2_checkWait_X2 (ci := 2) rfl 0 (by decide) (fl_X2_checkWait_11) rfl dX2_checkWait_12 hC.x rfl ?_
      refine zz_astore_n (pc := 15) C dX2_checkWait_15 (Nat.le_of_ble_eq_true rfl) ?_
      refine zz_aload_n (pc := 16) C dX2_checkWait_16 rfl ?_
      refine zz_tlnC (pc := 17) C hC dX2_checkWait_17 ?_
      refine zz_istore (pc := 18) C dX2_checkWait_18 (Nat.le_of_ble_eq_true rfl) ?_
      refine zz_iconst (pc := 20) C (v := 0) (by decide) dX2_checkWait_20 ?_
      refine zz_istore (pc := 21) C dX2_checkWait_21 (Nat.le_of_ble_eq_true rfl) ?_
      exact zV.less (L' := [some (.ref x), some (.ref (A p9)), some (.int (zb (∀ k, k < z0 → ¬ zKid σ p9 k))), some (.ref tb), some (.int (nI 41)), some (.int (nI (z0))), none]) ⟨rfl, rfl, zvt (fun k hk => absurd hk (by omega)), rfl, rfl, zvi (by rw [hz0]; rfl), trivial⟩ (loop 41 z0 (by omega) (fun k hk => absurd hk (by omega)))
    · exact absurd ((zCond_1 hPp).mpr ⟨h4, h5, hw⟩) hc5
theorem zPF_wait {σ : zS} {k : Nat} {f : Nat → Int32} {c b : Int32} (hf : zPF σ k f) : zPF (zWset σ k c b) k (upd (upd (upd f 7 1) 8 c) 9 b) := by
  obtain ⟨a0, a2, a3, a4, a5, a6, a7, a8, a10, a11, a12, a13, a14, a15, a16, a17, a18, a19⟩ := hf
  exact ⟨a0, a2, a3, a4, a5, a6, by simp [zu, upd], fun _ => ⟨by simp [zu, upd], by simp [zu, upd]⟩, a10, a11, a12, a13, a14, a15, a16, a17, a18, a19⟩
theorem zOwn_wait {σ : zS} {k : Nat} {c b : Int32} : zOwn σ (zWset σ k c b) k := (((zOwn.rf.put (g := 6) (v := 1) (by decide) (by decide) (by decide)).put (g := 7) (v := c) (by decide) (by decide) (by decide)).put (g := 8) (v := b) (by decide) (by decide) (by decide))
theorem fl_X2_beginWait_269 : Cond.fieldLink RX2 269 "Signalpost$Proc" "waiting" "Z" ∈ wsX2_beginWait := by decide +kernel
theorem fl_X2_beginWait_272 : Cond.fieldLink RX2 272 "Signalpost$Proc" "awaited" "I" ∈ wsX2_beginWait := by decide +kernel
theorem fl_X2_beginWait_275 : Cond.fieldLink RX2 275 "Signalpost$Proc" "awaitsStops" "Z" ∈ wsX2_beginWait := by decide +kernel
theorem in_X2_beginWait_X1 : ∀ w ∈ u_ws RX1 TX1 20, w ∈ wsX2_beginWait := by decide +kernel
set_option maxHeartbeats 4000000 in
set_option maxRecDepth 100000 in
theorem c_X2_beginWait (l : Launch) (D : va_G) {B G : zG} {x tb ev : Nat} {A : Nat → Nat} {σ : zS} {q : List zEv} {h m0 : Nat} {p9 : Nat} {c9 f9 : Int32} (hC : zCl B x tb ev A σ q h m0 G) (hH : zHas (zWset σ p9 c9 f9)) (hW : zWt (zWset σ p9 c9 f9)) (hp : p9 < 41) (hp0 : σ 0 p9 ≠ 0) (hpl : (zCheck (zWset σ p9 c9 f9) p9) 0 p9 ≠ 0) (hf : f9 = 0 ∨ f9 = 1) : zMet D l yX2_beginWait wsX2_beginWait ({ frames := 3, cells := 0, slots := 0, locals := 71 } : Room) [.ref x, .ref (A p9), .int c9, .int f9] G (fun v G9 => v = some (.int (zb ((zCheck (zWset σ p9 c9 f9) p9) 6 p9 = 0))) ∧ zCl B x tb ev A (zCheck (zWset σ p9 c9 f9) p9) q h m0 G9) := by
  refine zMet_of (cc := cX2_beginWait) (maxL := 4) (ret := (some .boolean)) (by decide) rfl (Nat.le_of_ble_eq_true rfl) ?_
  intro p e s m args below meth c C hmn
  obtain ⟨f, hGa, hPF, hup⟩ := hC.at hp hp0
  refine zz_aload_n (pc := 0) C dX2_beginWait_0 rfl ?_
  refine zz_iconst (pc := 1) C (v := 1) (by decide) dX2_beginWait_1 ?_
  refine zV.eqG (zU_id hGa).symm ?_
  refine zz_pput (pc := 2) C in_X2_beginWait_X1 7 (by decide) (by decide) (by decide) fl_X2_beginWait_269 dX2_beginWait_2 rfl rfl ?_
  refine zz_aload_n (pc := 5) C dX2_beginWait_5 rfl ?_
  refine zz_iload_n (pc := 6) C dX2_beginWait_6 rfl ?_
  refine zz_pput (pc := 7) C in_X2_beginWait_X1 8 (by decide) (by decide) (by decide) fl_X2_beginWait_272 dX2_beginWait_7 rfl rfl ?_
  refine zz_aload_n (pc := 10) C dX2_beginWait_10 rfl ?_
  refine zz_iload_n (pc := 11) C dX2_beginWait_11 rfl ?_
  refine zz_pput (pc := 12) C in_X2_beginWait_X1 9 (by decide) (by decide) (by decide) fl_X2_beginWait_275 dX2_beginWait_12 (by rcases hf with rfl | rfl <;> rfl) (by rcases hf with rfl | rfl <;> rfl) ?_
  have hC2 := hup _ _ (zOwn_wait (c := c9) (b := f9)) (zPF_wait hPF)
  refine zz_aload_n (pc := 15) C dX2_beginWait_15 rfl ?_
  refine zz_aload_n (pc := 16) C dX2_beginWait_16 rfl ?_
  refine zz_callV (pc := 17) C (c_X2_checkWait l D hC2 (p9 := p9) hH hW hp hp0) gX2_beginWait_X2_checkWait rfl 1 (by decide +kernel) ⟨Nat.le_of_ble_eq_true rfl, Nat.le_of_ble_eq_true rfl⟩ hC2.x (ci := 2) rfl rfl rfl dX2_beginWait_17 rfl (Nat.le_of_ble_eq_true rfl) rfl ⟨Nat.le_of_ble_eq_true rfl, Nat.le_of_ble_eq_true rfl⟩ ?_
  rintro v G9 ⟨rfl, hC3⟩
  obtain ⟨f2, hGb, hPb, _⟩ := hC3.at (k := p9) hp hpl
  refine zz_aload_n (pc := 20) C dX2_beginWait_20 rfl ?_
  refine zz_get (pc := 21) C in_X2_beginWait_X1 (ci := 1) rfl 7 (by decide) (fl_X2_beginWait_269) rfl dX2_beginWait_21 hGb rfl ?_
  refine zz_if_ne (pc := 24) C (tgt := 31) dX2_beginWait_24 (by decide) (fun hc24 => ?_) (fun hc24 => ?_)
  · refine zz_iconst (pc := 31) C (v := 0) (by decide) dX2_beginWait_31 ?_
    exact zz_ireturn (pc := 32) C dX2_beginWait_32 (by decide) (Nat.le_refl _) (Nat.le_refl _) ⟨by first | exact zvt (hPb.2.2.2.2.2.2.1.symm.trans (Classical.not_not.mp hc24)) | exact zvf (fun z => hc24 (hPb.2.2.2.2.2.2.1.trans z)), hC3⟩
  · refine zz_iconst (pc := 27) C (v := 1) (by decide) dX2_beginWait_27 ?_
    refine zz_goto (pc := 28) C (tgt := 32) dX2_beginWait_28 (by decide) ?_
    exact zz_ireturn (pc := 32) C dX2_beginWait_32 (by decide) (Nat.le_refl _) (Nat.le_refl _) ⟨by first | exact zvt (hPb.2.2.2.2.2.2.1.symm.trans (Classical.not_not.mp hc24)) | exact zvf (fun z => hc24 (hPb.2.2.2.2.2.2.1.trans z)), hC3⟩
theorem zCl_max {B : zG} {x tb ev : Nat} {A : Nat → Nat} {σ : zS} {q : List zEv} {h m0 : Nat} {G : zG} (hC : zCl B x tb ev A σ q h m0 G) : zCl B x tb ev A σ q h (max m0 (h + q.length)) G := by
  obtain ⟨hm, ka, pa, F, fk, fp, ck, cp, hB⟩ := hC
  have hq := hB.2.2.2.1
  have hle : h + q.length ≤ zK m0 := hq.2.2.2.2.1
  have e : zK (max m0 (h + q.length)) = zK m0 := by
    have h1 := zK_cases m0
    have h2 := zK_cases (max m0 (h + q.length))
    omega
  have hK := zK_in m0
  refine ⟨by omega, ka, pa, F, fk, fp, ck, cp, ?_⟩
  rw [e]
  exact hB
theorem fl_X2_tellParent_151 : Cond.fieldLink RX2 151 "Signalpost$Proc" "pid" "I" ∈ wsX2_tellParent := by decide +kernel
theorem fl_X2_tellParent_18 : Cond.fieldLink RX2 18 "Signalpost" "events" "LSignalpost$EventQueue;" ∈ wsX2_tellParent := by decide +kernel
theorem in_X2_tellParent_X1 : ∀ w ∈ u_ws RX1 TX1 20, w ∈ wsX2_tellParent := by decide +kernel
theorem in_X2_tellParent_X2 : ∀ w ∈ u_ws RX2 TX2 4, w ∈ wsX2_tellParent := by decide +kernel
set_option maxHeartbeats 4000000 in
set_option maxRecDepth 100000 in
theorem c_X2_tellParent (l : Launch) (D : va_G) {B G : zG} {x tb ev : Nat} {A : Nat → Nat} {σ : zS} {q : List zEv} {h m0 : Nat} {p9 : Nat} (hC : zCl B x tb ev A σ q h m0 G) (hH : zHas σ) (hW : zWt σ) (hp : p9 < 41) (hp0 : σ 0 p9 ≠ 0) (hpl : (zCheck σ p9) 0 p9 ≠ 0) (hroom : ¬ p9 = 1 → h + q.length + 1 ≤ 16384) : zMet D l yX2_tellParent wsX2_tellParent (zRmA 4 104 m0 (h + (zTell (σ, q) p9).2.length)) [.ref x, .ref (A p9)] G (fun v G9 => v = none ∧ zCl B x tb ev A (zTell (σ, q) p9).1 (zTell (σ, q) p9).2 h (max m0 (h + (zTell (σ, q) p9).2.length)) G9) := by
  refine zMet_of (cc := cX2_tellParent) (maxL := 2) (ret := none) (by decide) rfl (Nat.le_of_ble_eq_true rfl) ?_
  intro p e s m args below meth c C hmn
  obtain ⟨f, hGa, hPF, hup⟩ := hC.at hp hp0
  by_cases h1 : p9 = 1
  · skip
    refine zz_aload_n (pc := 0) C dX2_tellParent_0 rfl ?_
    refine zz_get (pc := 1) C in_X2_tellParent_X1 (ci := 1) rfl 0 (by decide) (fl_X2_tellParent_151) rfl dX2_tellParent_1 hGa rfl ?_
    refine zz_iconst (pc := 4) C (v := 1) (by decide) dX2_tellParent_4 ?_
    refine zz_icmp_eq (pc := 5) C (tgt := 25) dX2_tellParent_5 (by decide) (fun hc5 => ?_) (fun hc5 => ?_)
    · exact zz_return (pc := 25) C dX2_tellParent_25 (Nat.zero_le _) (Nat.zero_le _) ⟨rfl, by rw [zTell_1 h1]; exact zCl_max hC⟩
    · exact absurd (hPF.1.trans (by rw [h1]; rfl)) hc5
  · have hlen : (zTell (σ, q) p9).2.length = q.length + 1 := by rw [zTell_n h1]; simp
    have hlen : h + (zTell (σ, q) p9).2.length = h + q.length + 1 := by omega
    refine zz_aload_n (pc := 0) C dX2_tellParent_0 rfl ?_
    refine zz_get (pc := 1) C in_X2_tellParent_X1 (ci := 1) rfl 0 (by decide) (fl_X2_tellParent_151) rfl dX2_tellParent_1 hGa rfl ?_
    refine zz_iconst (pc := 4) C (v := 1) (by decide) dX2_tellParent_4 ?_
    refine zz_icmp_eq (pc := 5) C (tgt := 25) dX2_tellParent_5 (by decide) (fun hc5 => ?_) (fun hc5 => ?_)
    · exact absurd (hPF.1.symm.trans hc5) (fun z => h1 ((nI_eq (by omega) (by decide)).mp (show nI p9 = nI 1 from z)))
    · refine zz_aload_n (pc := 8) C dX2_tellParent_8 rfl ?_
      refine zz_aload_n (pc := 9) C dX2_tellParent_9 rfl ?_
      refine zz_callV (pc := 10) C (c_X2_checkWait l D hC (p9 := p9) hH hW hp hp0) gX2_tellParent_X2_checkWait rfl 1 (by decide +kernel) ⟨Nat.le_of_ble_eq_true rfl, Nat.le_of_ble_eq_true rfl⟩ hC.x (ci := 2) rfl rfl rfl dX2_tellParent_10 rfl (Nat.le_of_ble_eq_true rfl) rfl ⟨Nat.zero_le _, Nat.zero_le _⟩ ?_
      rintro v G9 ⟨rfl, hC3⟩
      obtain ⟨f2, hGb, hPb, _⟩ := hC3.at (k := p9) hp hpl
      obtain ⟨fe, hE⟩ := hC3.ev
      refine zz_aload_n (pc := 13) C dX2_tellParent_13 rfl ?_
      refine zz_get (pc := 14) C in_X2_tellParent_X2 (ci := 2) rfl 1 (by decide) (fl_X2_tellParent_18) rfl dX2_tellParent_14 hC3.x rfl ?_
      refine zz_iconst (pc := 17) C (v := 4) (by decide) dX2_tellParent_17 ?_
      refine zz_aload_n (pc := 18) C dX2_tellParent_18 rfl ?_
      refine zz_get (pc := 19) C in_X2_tellParent_X1 (ci := 1) rfl 0 (by decide) (fl_X2_tellParent_151) rfl dX2_tellParent_19 hGb rfl ?_
      refine zz_callV (pc := 22) C (c_clApp l D (e9 := (4, p9)) hC3 (by have := hroom h1; omega) rfl hPb.1) gX2_tellParent_X0_append rfl 2 (by decide +kernel) ⟨Nat.le_of_ble_eq_true rfl, Nat.le_of_ble_eq_true rfl⟩ hE (ci := 0) rfl rfl rfl dX2_tellParent_22 rfl (Nat.le_of_ble_eq_true rfl) rfl ⟨by rw [hlen]; show 0 + 0 + (zK _ - zK _) ≤ zK _ - zK _; omega, by rw [hlen]; show 0 + 0 + 4 * (zK _ - zK _) ≤ 4 * (zK _ - zK _); omega⟩ ?_
      rintro v G9 ⟨rfl, hC4⟩
      exact zz_return (pc := 25) C dX2_tellParent_25 (by rw [hlen]; show 0 + 0 + (zK _ - zK _) ≤ zK _ - zK _; omega) (by rw [hlen]; show 0 + 0 + 4 * (zK _ - zK _) ≤ 4 * (zK _ - zK _); omega) ⟨rfl, by rw [hlen, zTell_n h1]; exact hC4⟩
