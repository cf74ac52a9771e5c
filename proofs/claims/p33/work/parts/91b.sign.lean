theorem z9n {s : Nat} (hs : s < 9) : ¬ (nI s < 0 ∨ ¬ nI s < 9) := by
  rintro (z | z)
  · exact nI_nlt (a := s) (b := 0) (by omega) (by omega) z
  · exact z ((nI_ltI (a := s) (b := 9) (by omega) (by decide)).mpr hs)
theorem z8le {s : Nat} (hs : s < 9) : nI s ≤ 8 := (nI_leI (a := s) (b := 8) (by omega) (by decide)).mpr (by omega)
theorem zSeq {s t : Nat} (hs : s < 9) (ht : t < 2 ^ 31) (h : nI s = nI t) : s = t := (nI_eq (by omega) ht).mp h
theorem zG1 {k : Nat} (h1 : 1 ≤ k) (hk : k < 41) (h : ¬ (1 : Int32) < nI k) : k = 1 := by
  by_cases z : k = 1
  · exact z
  · exact absurd ((nI_ltI (a := 1) (b := k) (by decide) (by omega)).mpr (by omega)) h
/-- sent to init or to a zombie: nothing comes of it -/
theorem zGo_dead {n s k : Nat} {σ : zS} (hs : s < 9) (hn : 0 < n) (h : k = 1 ∨ σ 4 k ≠ 0) : zGo n σ [(s, k)] = σ := by
  rw [zGo_cons hn, zEvent_st _ _ _ _ hs, zComes_no (x := (σ, [])) (h.elim (fun z => Or.inr (Or.inr z)) (fun z => Or.inr (Or.inl z))), zGo_nil]
theorem zGo_kill {n k : Nat} {σ : zS} (hn : 0 < n) (hI : zIv 0 σ []) (h0 : σ 0 k ≠ 0) (h4 : σ 4 k = 0) (h1 : k ≠ 1) : zGone (zGo n σ [(2, k)]) k := by
  have hk := hI.wf.in h0
  have g : zGood σ [(2, k)] := ⟨hI.wf, fun e he => by rw [List.mem_singleton.mp he]; exact zEvK.sig (by decide) hk⟩
  rw [zGo_cons hn]
  have g1 := g.event
  refine zGone.mo ?_ (zMo.go g1)
  rw [zEvent_st _ _ _ _ (by decide)]
  exact zComes_kill hI.wf h0 h4 h1
theorem zGo_cont {n k : Nat} {σ : zS} (hn : 0 < n) (hI : zIv 0 σ []) (h0 : σ 0 k ≠ 0) (h4 : σ 4 k = 0) (h1 : k ≠ 1) : zGone (zGo n σ [(7, k)]) k ∨ (zGo n σ [(7, k)] 5 k = 0 ∧ zbit (zGo n σ [(7, k)] 11 k) 6 = false) := by
  have hk := hI.wf.in h0
  have g : zGood σ [(7, k)] := ⟨hI.wf, fun e he => by rw [List.mem_singleton.mp he]; exact zEvK.sig (by decide) hk⟩
  rw [zGo_cons hn]
  have g1 := g.event
  rw [zEvent_st _ _ _ _ (by decide)] at g1 ⊢
  rcases zComes_cont (σ := σ) (p := k) h0 h4 h1 with z | ⟨z1, z2, z3⟩
  · exact Or.inl (zGone.mo (Or.inr z) (zMo.go g1))
  · rw [z1, zGo_nil]
    exact Or.inr ⟨z2, z3⟩
theorem zGo_held {n k s : Nat} {σ : zS} (hn : 0 < n) (hs : s < 9) (h0 : σ 0 k ≠ 0) (h4 : σ 4 k = 0) (h1 : k ≠ 1) (h5 : σ 5 k ≠ 0) (s2 : s ≠ 2) (s7 : s ≠ 7) : zSt3 (zGo n σ [(s, k)]) k ∧ zGo n σ [(s, k)] 12 k = σ 12 k := by
  rw [zGo_cons hn, zEvent_st _ _ _ _ hs]
  obtain ⟨a, b, c, d, e⟩ := zComes_held (s := s) h0 h4 h1 h5 s2 s7
  rw [a, zGo_nil]
  exact ⟨⟨b, c, d⟩, e⟩
theorem zb_ne0 {σ : zS} {k : Nat} (h : ¬ zb (σ 0 k ≠ 0) = 0) : σ 0 k ≠ 0 := zbp h
theorem zb_eqn {σ : zS} {k : Nat} (h : zb (σ 0 k ≠ 0) = 0) : σ 0 k = 0 := Classical.not_not.mp (zb_eq.mp h)
set_option maxHeartbeats 4000000 in
set_option maxRecDepth 100000 in
theorem c_L_isSignalled_w (l : Launch) (hl : l.stackTraces = false) (D : va_G) {B G : zG} {x tb ev : Nat} {A : Nat → Nat} {σ : zS} {m0 : Nat} (hC : zCl B x tb ev A σ [] 0 m0 G) {k9 s9 : Nat} (hI : zIv 0 σ []) (h1 : 1 ≤ k9) (hk : k9 < 41) (h0 : σ 0 k9 ≠ 0) (hs : s9 = 9) : zxMet D l yL_isSignalled wsL_isSignalled ({ frames := 12, cells := 20, slots := 120, locals := 340 } : Room) [.ref x, .int (nI k9), .int (nI s9)] G (fun v G9 => v = some (.int 1) ∧ zLq B x σ m0 G9) (fun _ => False) := by
  refine zxMet_of (cc := cL_isSignalled) (maxL := 8) (ret := (some .boolean)) (by decide) rfl (Nat.le_of_ble_eq_true rfl) ?_
  intro p e s m args below meth c C hnx h8
  have hW := hI.wf
  have hTH : zE2 (¬ zHere σ (nI k9)) (nI s9 < 0 ∨ ¬ nI s9 < 9) = 2 := zE2_2 (fun z => z (zHere_n h1 hk h0)) (Or.inr (by rw [hs]; decide))
  refine zz_aload_n (pc := 0) C dL_isSignalled_0 rfl ?_
  refine zz_iload_n (pc := 1) C dL_isSignalled_1 rfl ?_
  refine zz_callV (pc := 2) C (q_state l D hC h1 hk h0) gL_isSignalled_X2_state rfl 1 (by decide +kernel) ⟨Nat.le_of_ble_eq_true rfl, Nat.le_of_ble_eq_true rfl⟩ hC.x (ci := 2) rfl rfl rfl dL_isSignalled_2 rfl (Nat.le_of_ble_eq_true rfl) rfl ⟨Nat.le_of_ble_eq_true rfl, Nat.le_of_ble_eq_true rfl⟩ ?_
  rintro v G9 ⟨rfl, rfl⟩
  refine zz_istore_n (pc := 5) C dL_isSignalled_5 (Nat.le_of_ble_eq_true rfl) ?_
  refine zV.less (L' := [some (.ref (x)), some (.int (nI k9)), some (.int (nI s9)), some (.int (zCon σ k9)), none, none, none, none]) ⟨rfl, rfl, rfl, rfl, trivial⟩ ?_
  refine zz_aload_n (pc := 6) C dL_isSignalled_6 rfl ?_
  refine zz_iload_n (pc := 7) C dL_isSignalled_7 rfl ?_
  refine zz_callV (pc := 8) C (q_caught l D hC h1 hk h0) gL_isSignalled_X2_caught rfl 1 (by decide +kernel) ⟨Nat.le_of_ble_eq_true rfl, Nat.le_of_ble_eq_true rfl⟩ hC.x (ci := 2) rfl rfl rfl dL_isSignalled_8 rfl (Nat.le_of_ble_eq_true rfl) rfl ⟨Nat.le_of_ble_eq_true rfl, Nat.le_of_ble_eq_true rfl⟩ ?_
  rintro v G9 ⟨rfl, rfl⟩
  refine zz_istore (pc := 11) C dL_isSignalled_11 (Nat.le_of_ble_eq_true rfl) ?_
  refine zV.less (L' := [some (.ref (x)), some (.int (nI k9)), some (.int (nI s9)), some (.int (zCon σ k9)), some (.int (σ 12 k9)), none, none, none]) ⟨rfl, rfl, rfl, rfl, rfl, trivial⟩ ?_
  refine zz_aload_n (pc := 13) C dL_isSignalled_13 rfl ?_
  refine zz_iload_n (pc := 14) C dL_isSignalled_14 rfl ?_
  refine zz_iload_n (pc := 15) C dL_isSignalled_15 rfl ?_
  refine zzx_callSW (pc := 16) C h8 ((c_L_sends l hl D (x9 := nI k9) (s9 := nI s9) (X := (σ, [(pn (nI s9), pn (nI k9))])) (N := 0) hC rfl (fun z => absurd (hTH.symm.trans z) (by decide))).imp (fun _ _ z => z.elim (fun y => absurd (hTH.symm.trans y.1) (by decide)) (fun z => z.elim (fun y => absurd (hTH.symm.trans y.1) (by decide)) (fun z => z))) (fun _ z => z)) gL_isSignalled_L_sends rfl 3 (by decide +kernel) ⟨Nat.le_of_ble_eq_true rfl, Nat.le_of_ble_eq_true rfl⟩ rfl dL_isSignalled_16 rfl (Nat.le_of_ble_eq_true rfl) rfl (zRx_l (by decide)) (fun E hE => hE.elim) ?_
  rintro v G9 ⟨_, rfl, rfl⟩
  refine zV.widen (k := 5) (n := 60) (zRx_l5 (by decide)).1 (zRx_l5 (by decide)).2 ?_
  refine zz_istore (pc := 19) C dL_isSignalled_19 (Nat.le_of_ble_eq_true rfl) ?_
  refine zV.less (L' := [some (.ref (x)), some (.int (nI k9)), some (.int (nI s9)), some (.int (zCon σ k9)), some (.int (σ 12 k9)), some (.int (-20)), none, none]) ⟨rfl, rfl, rfl, rfl, rfl, rfl, trivial⟩ ?_
  refine zz_iload_n (pc := 21) C dL_isSignalled_21 rfl ?_
  refine zz_bipush (pc := 22) C (v := 8) (by decide) dL_isSignalled_22 ?_
  refine zz_icmp_le (pc := 24) C (tgt := 40) dL_isSignalled_24 (by decide) (fun hc24 => ?_) (fun hc24 => ?_)
  · exact absurd hc24 (by rw [hs]; decide)
  · refine zz_iload (pc := 27) C dL_isSignalled_27 rfl ?_
    refine zz_bipush (pc := 29) C (v := -20) (by decide) dL_isSignalled_29 ?_
    refine zz_icmp_ne (pc := 31) C (tgt := 38) dL_isSignalled_31 (by decide) (fun hc31 => ?_) (fun hc31 => ?_)
    · exact absurd rfl hc31
    · refine zz_iconst (pc := 34) C (v := 1) (by decide) dL_isSignalled_34 ?_
      refine zz_goto (pc := 35) C (tgt := 39) dL_isSignalled_35 (by decide) ?_
      exact zzx_ret (zz_ireturn (pc := 39) C dL_isSignalled_39 (by first | rfl | exact zb_nar) (Nat.le_of_ble_eq_true rfl) (Nat.le_of_ble_eq_true rfl) ⟨rfl, ⟨tb, ev, A, hC⟩⟩)
set_option maxHeartbeats 4000000 in
set_option maxRecDepth 100000 in
theorem c_L_isSignalled_i (l : Launch) (hl : l.stackTraces = false) (D : va_G) {B G : zG} {x tb ev : Nat} {A : Nat → Nat} {σ : zS} {m0 : Nat} (hC : zCl B x tb ev A σ [] 0 m0 G) {k9 s9 : Nat} {X : zS × List zEv} (hI : zIv 0 σ []) (h1 : 1 ≤ k9) (hk : k9 < 41) (h0 : σ 0 k9 ≠ 0) (hs : s9 < 9) (hX : X = (σ, [(s9, k9)])) (hr : zReady 8300 X) (hz : k9 = 1 ∨ σ 4 k9 ≠ 0) : zxMet D l yL_isSignalled wsL_isSignalled (zRmX 12 340 m0 (zCount 8300 X.1 X.2) 20) [.ref x, .int (nI k9), .int (nI s9)] G (fun v G9 => v = some (.int 1) ∧ zLq B x (zFin 8300 X) (max m0 (zCount 8300 X.1 X.2)) G9) (fun _ => False) := by
  refine zxMet_of (cc := cL_isSignalled) (maxL := 8) (ret := (some .boolean)) (by decide) rfl (Nat.le_of_ble_eq_true rfl) ?_
  intro p e s m args below meth c C hnx h8
  have hW := hI.wf
  have hTH : zE2 (¬ zHere σ (nI k9)) (nI s9 < 0 ∨ ¬ nI s9 < 9) = 0 := zE2_0 (fun z => z (zHere_n h1 hk h0)) (z9n hs)
  have hI1 : zIv 0 (zFin 8300 X) [] := (show zIv 0 X.1 X.2 by rw [hX]; exact hI.queue).fin hr
  have hfin : zFin 8300 X = zGo 8300 σ [(s9, k9)] := by rw [hX]
  have hτσ : zFin 8300 X = σ := hfin.trans (zGo_dead hs (by decide) hz)
  have t1 : zCon (zFin 8300 X) 1 = 0 := zCon_0.mpr ⟨hI1.wf.2.2.2.2.1.2.2.2.2.1, hI1.wf.2.2.2.2.1.2.2.2.2.2.1, hI1.wf.2.2.2.2.1.2.2.2.2.2.2.1⟩
  have hg : k9 ≠ 1 → zGone (zFin 8300 X) k9 := fun z => by rw [hτσ]; exact Or.inr (hz.resolve_left z)
  have hrc := zRx_r (m := m0) (T := zCount 8300 X.1 X.2) (f := 12) (l := 340)
  clear hfin hτσ
  generalize hτ : zFin 8300 X = τ at hI1 hg t1 ⊢
  have hW1 := hI1.wf
  have K62 : ∀ G9 : zG, zCl B x tb ev A τ [] 0 (max m0 (zCount 8300 X.1 X.2)) G9 → zV p l e (zRmX 12 340 m0 (zCount 8300 X.1 X.2) 20) s m args below meth c D (zA G s.heap.size) (5 + zW m0 (zCount 8300 X.1 X.2)) (60 + 4 * zW m0 (zCount 8300 X.1 X.2)) (zxZ below D G (fun v G9 => v = some (.int 1) ∧ zLq B x τ (max m0 (zCount 8300 X.1 X.2)) G9) (fun _ => False) args s (zRmX 12 340 m0 (zCount 8300 X.1 X.2) 20)) G9 62 [some (.ref x), some (.int (nI k9)), some (.int (nI s9)), some (.int (zCon σ k9)), some (.int (σ 12 k9)), some (.int (0)), none, none] [.int (zb (zGone τ k9))] := by
    intro G9 hC1
    refine zz_istore (pc := 62) C dL_isSignalled_62 (Nat.le_of_ble_eq_true rfl) ?_
    refine zV.less (L' := [some (.ref (x)), some (.int (nI k9)), some (.int (nI s9)), some (.int (zCon σ k9)), some (.int (σ 12 k9)), some (.int (0)), some (.int (zb (zGone τ k9))), none]) ⟨rfl, rfl, rfl, rfl, rfl, rfl, rfl, trivial⟩ ?_
    refine zz_iload_n (pc := 64) C dL_isSignalled_64 rfl ?_
    refine zz_iconst (pc := 65) C (v := 1) (by decide) dL_isSignalled_65 ?_
    refine zz_icmp_eq (pc := 66) C (tgt := 74) dL_isSignalled_66 (by decide) (fun hc66 => ?_) (fun hc66 => ?_)
    · refine zz_iload (pc := 74) C dL_isSignalled_74 rfl ?_
      refine zz_if_ne (pc := 76) C (tgt := 106) dL_isSignalled_76 (by decide) (fun hc76 => ?_) (fun hc76 => ?_)
      · exact absurd rfl hc76
      · refine zz_iload_n (pc := 79) C dL_isSignalled_79 rfl ?_
        refine zz_iconst (pc := 80) C (v := 1) (by decide) dL_isSignalled_80 ?_
        refine zz_icmp_gt (pc := 81) C (tgt := 92) dL_isSignalled_81 (by decide) (fun hc81 => ?_) (fun hc81 => ?_)
        · refine zz_iload_n (pc := 92) C dL_isSignalled_92 rfl ?_
          refine zz_iconst (pc := 93) C (v := 1) (by decide) dL_isSignalled_93 ?_
          refine zz_icmp_eq (pc := 94) C (tgt := 102) dL_isSignalled_94 (by decide) (fun hc94 => ?_) (fun hc94 => ?_)
          · refine zz_iconst (pc := 102) C (v := 1) (by decide) dL_isSignalled_102 ?_
            refine zz_goto (pc := 103) C (tgt := 107) dL_isSignalled_103 (by decide) ?_
            exact zzx_ret (zz_ireturn (pc := 107) C dL_isSignalled_107 (by first | rfl | exact zb_nar) hrc.1 hrc.2 ⟨rfl, ⟨tb, ev, A, hC1⟩⟩)
          · refine zz_iload (pc := 97) C dL_isSignalled_97 rfl ?_
            refine zz_if_eq (pc := 99) C (tgt := 106) dL_isSignalled_99 (by decide) (fun hc99 => ?_) (fun hc99 => ?_)
            · exact False.elim (zb_eq.mp hc99 (hg (fun z => hc94 (by rw [z]; decide))))
            · refine zz_iconst (pc := 102) C (v := 1) (by decide) dL_isSignalled_102 ?_
              refine zz_goto (pc := 103) C (tgt := 107) dL_isSignalled_103 (by decide) ?_
              exact zzx_ret (zz_ireturn (pc := 107) C dL_isSignalled_107 (by first | rfl | exact zb_nar) hrc.1 hrc.2 ⟨rfl, ⟨tb, ev, A, hC1⟩⟩)
        · refine zz_aload_n (pc := 84) C dL_isSignalled_84 rfl ?_
          refine zz_iconst (pc := 85) C (v := 1) (by decide) dL_isSignalled_85 ?_
          refine zz_callV (pc := 86) C (q_state l D hC1 (by decide) (by decide) hW1.x0 (k := 1)) gL_isSignalled_X2_state rfl 1 (by decide +kernel) ⟨Nat.le_of_ble_eq_true rfl, Nat.le_of_ble_eq_true rfl⟩ hC1.x (ci := 2) rfl rfl rfl dL_isSignalled_86 rfl (Nat.le_of_ble_eq_true rfl) rfl hrc ?_
          rintro v G9 ⟨rfl, rfl⟩
          refine zz_if_ne (pc := 89) C (tgt := 106) dL_isSignalled_89 (by decide) (fun hc89 => ?_) (fun hc89 => ?_)
          · exact absurd t1 hc89
          · refine zz_iload_n (pc := 92) C dL_isSignalled_92 rfl ?_
            refine zz_iconst (pc := 93) C (v := 1) (by decide) dL_isSignalled_93 ?_
            refine zz_icmp_eq (pc := 94) C (tgt := 102) dL_isSignalled_94 (by decide) (fun hc94 => ?_) (fun hc94 => ?_)
            · refine zz_iconst (pc := 102) C (v := 1) (by decide) dL_isSignalled_102 ?_
              refine zz_goto (pc := 103) C (tgt := 107) dL_isSignalled_103 (by decide) ?_
              exact zzx_ret (zz_ireturn (pc := 107) C dL_isSignalled_107 (by first | rfl | exact zb_nar) hrc.1 hrc.2 ⟨rfl, ⟨tb, ev, A, hC1⟩⟩)
            · refine zz_iload (pc := 97) C dL_isSignalled_97 rfl ?_
              refine zz_if_eq (pc := 99) C (tgt := 106) dL_isSignalled_99 (by decide) (fun hc99 => ?_) (fun hc99 => ?_)
              · exact False.elim (zb_eq.mp hc99 (hg (fun z => hc94 (by rw [z]; decide))))
              · refine zz_iconst (pc := 102) C (v := 1) (by decide) dL_isSignalled_102 ?_
                refine zz_goto (pc := 103) C (tgt := 107) dL_isSignalled_103 (by decide) ?_
                exact zzx_ret (zz_ireturn (pc := 107) C dL_isSignalled_107 (by first | rfl | exact zb_nar) hrc.1 hrc.2 ⟨rfl, ⟨tb, ev, A, hC1⟩⟩)
    · refine zz_iload_n (pc := 69) C dL_isSignalled_69 rfl ?_
      refine zz_iconst (pc := 70) C (v := 3) (by decide) dL_isSignalled_70 ?_
      refine zz_icmp_ne (pc := 71) C (tgt := 108) dL_isSignalled_71 (by decide) (fun hc71 => ?_) (fun hc71 => ?_)
      · exact absurd (zCon_3.mpr (hz.resolve_left (fun z => hc66 (by rw [z]; decide)))) hc71
      · refine zz_iload (pc := 74) C dL_isSignalled_74 rfl ?_
        refine zz_if_ne (pc := 76) C (tgt := 106) dL_isSignalled_76 (by decide) (fun hc76 => ?_) (fun hc76 => ?_)
        · exact absurd rfl hc76
        · refine zz_iload_n (pc := 79) C dL_isSignalled_79 rfl ?_
          refine zz_iconst (pc := 80) C (v := 1) (by decide) dL_isSignalled_80 ?_
          refine zz_icmp_gt (pc := 81) C (tgt := 92) dL_isSignalled_81 (by decide) (fun hc81 => ?_) (fun hc81 => ?_)
          · refine zz_iload_n (pc := 92) C dL_isSignalled_92 rfl ?_
            refine zz_iconst (pc := 93) C (v := 1) (by decide) dL_isSignalled_93 ?_
            refine zz_icmp_eq (pc := 94) C (tgt := 102) dL_isSignalled_94 (by decide) (fun hc94 => ?_) (fun hc94 => ?_)
            · refine zz_iconst (pc := 102) C (v := 1) (by decide) dL_isSignalled_102 ?_
              refine zz_goto (pc := 103) C (tgt := 107) dL_isSignalled_103 (by decide) ?_
              exact zzx_ret (zz_ireturn (pc := 107) C dL_isSignalled_107 (by first | rfl | exact zb_nar) hrc.1 hrc.2 ⟨rfl, ⟨tb, ev, A, hC1⟩⟩)
            · refine zz_iload (pc := 97) C dL_isSignalled_97 rfl ?_
              refine zz_if_eq (pc := 99) C (tgt := 106) dL_isSignalled_99 (by decide) (fun hc99 => ?_) (fun hc99 => ?_)
              · exact False.elim (zb_eq.mp hc99 (hg (fun z => hc94 (by rw [z]; decide))))
              · refine zz_iconst (pc := 102) C (v := 1) (by decide) dL_isSignalled_102 ?_
                refine zz_goto (pc := 103) C (tgt := 107) dL_isSignalled_103 (by decide) ?_
                exact zzx_ret (zz_ireturn (pc := 107) C dL_isSignalled_107 (by first | rfl | exact zb_nar) hrc.1 hrc.2 ⟨rfl, ⟨tb, ev, A, hC1⟩⟩)
          · refine zz_aload_n (pc := 84) C dL_isSignalled_84 rfl ?_
            refine zz_iconst (pc := 85) C (v := 1) (by decide) dL_isSignalled_85 ?_
            refine zz_callV (pc := 86) C (q_state l D hC1 (by decide) (by decide) hW1.x0 (k := 1)) gL_isSignalled_X2_state rfl 1 (by decide +kernel) ⟨Nat.le_of_ble_eq_true rfl, Nat.le_of_ble_eq_true rfl⟩ hC1.x (ci := 2) rfl rfl rfl dL_isSignalled_86 rfl (Nat.le_of_ble_eq_true rfl) rfl hrc ?_
            rintro v G9 ⟨rfl, rfl⟩
            refine zz_if_ne (pc := 89) C (tgt := 106) dL_isSignalled_89 (by decide) (fun hc89 => ?_) (fun hc89 => ?_)
            · exact absurd t1 hc89
            · refine zz_iload_n (pc := 92) C dL_isSignalled_92 rfl ?_
              refine zz_iconst (pc := 93) C (v := 1) (by decide) dL_isSignalled_93 ?_
              refine zz_icmp_eq (pc := 94) C (tgt := 102) dL_isSignalled_94 (by decide) (fun hc94 => ?_) (fun hc94 => ?_)
              · refine zz_iconst (pc := 102) C (v := 1) (by decide) dL_isSignalled_102 ?_
                refine zz_goto (pc := 103) C (tgt := 107) dL_isSignalled_103 (by decide) ?_
                exact zzx_ret (zz_ireturn (pc := 107) C dL_isSignalled_107 (by first | rfl | exact zb_nar) hrc.1 hrc.2 ⟨rfl, ⟨tb, ev, A, hC1⟩⟩)
              · refine zz_iload (pc := 97) C dL_isSignalled_97 rfl ?_
                refine zz_if_eq (pc := 99) C (tgt := 106) dL_isSignalled_99 (by decide) (fun hc99 => ?_) (fun hc99 => ?_)
                · exact False.elim (zb_eq.mp hc99 (hg (fun z => hc94 (by rw [z]; decide))))
                · refine zz_iconst (pc := 102) C (v := 1) (by decide) dL_isSignalled_102 ?_
                  refine zz_goto (pc := 103) C (tgt := 107) dL_isSignalled_103 (by decide) ?_
                  exact zzx_ret (zz_ireturn (pc := 107) C dL_isSignalled_107 (by first | rfl | exact zb_nar) hrc.1 hrc.2 ⟨rfl, ⟨tb, ev, A, hC1⟩⟩)
  refine zz_aload_n (pc := 0) C dL_isSignalled_0 rfl ?_
  refine zz_iload_n (pc := 1) C dL_isSignalled_1 rfl ?_
  refine zz_callV (pc := 2) C (q_state l D hC h1 hk h0) gL_isSignalled_X2_state rfl 1 (by decide +kernel) ⟨Nat.le_of_ble_eq_true rfl, Nat.le_of_ble_eq_true rfl⟩ hC.x (ci := 2) rfl rfl rfl dL_isSignalled_2 rfl (Nat.le_of_ble_eq_true rfl) rfl (zRx_0 (Nat.le_of_ble_eq_true rfl) (Nat.le_of_ble_eq_true rfl)) ?_
  rintro v G9 ⟨rfl, rfl⟩
  refine zz_istore_n (pc := 5) C dL_isSignalled_5 (Nat.le_of_ble_eq_true rfl) ?_
  refine zV.less (L' := [some (.ref (x)), some (.int (nI k9)), some (.int (nI s9)), some (.int (zCon σ k9)), none, none, none, none]) ⟨rfl, rfl, rfl, rfl, trivial⟩ ?_
  refine zz_aload_n (pc := 6) C dL_isSignalled_6 rfl ?_
  refine zz_iload_n (pc := 7) C dL_isSignalled_7 rfl ?_
  refine zz_callV (pc := 8) C (q_caught l D hC h1 hk h0) gL_isSignalled_X2_caught rfl 1 (by decide +kernel) ⟨Nat.le_of_ble_eq_true rfl, Nat.le_of_ble_eq_true rfl⟩ hC.x (ci := 2) rfl rfl rfl dL_isSignalled_8 rfl (Nat.le_of_ble_eq_true rfl) rfl (zRx_0 (Nat.le_of_ble_eq_true rfl) (Nat.le_of_ble_eq_true rfl)) ?_
  rintro v G9 ⟨rfl, rfl⟩
  refine zz_istore (pc := 11) C dL_isSignalled_11 (Nat.le_of_ble_eq_true rfl) ?_
  refine zV.less (L' := [some (.ref (x)), some (.int (nI k9)), some (.int (nI s9)), some (.int (zCon σ k9)), some (.int (σ 12 k9)), none, none, none]) ⟨rfl, rfl, rfl, rfl, rfl, trivial⟩ ?_
  refine zz_aload_n (pc := 13) C dL_isSignalled_13 rfl ?_
  refine zz_iload_n (pc := 14) C dL_isSignalled_14 rfl ?_
  refine zz_iload_n (pc := 15) C dL_isSignalled_15 rfl ?_
  refine zzx_callSW (pc := 16) C h8 ((c_L_sends l hl D (x9 := nI k9) (s9 := nI s9) (X := X) (N := 8300) hC (by rw [pnn hk, show pn (nI s9) = s9 from nI_clamp (by omega)]; exact hX) (fun _ => hr)).imp (fun _ _ z => z.elim id (fun z => z.elim (fun y => absurd (hTH.symm.trans y.1) (by decide)) (fun z => absurd (hTH.symm.trans z.1) (by decide)))) (fun _ z => z)) gL_isSignalled_L_sends rfl 3 (by decide +kernel) ⟨Nat.le_of_ble_eq_true rfl, Nat.le_of_ble_eq_true rfl⟩ rfl dL_isSignalled_16 rfl (Nat.le_of_ble_eq_true rfl) rfl (zRx_c (k := 2) (by decide)) (fun E hE => hE.elim) ?_
  rintro v G9 ⟨_, rfl, hC1⟩
  rw [hτ] at hC1
  refine zV.widen (k := 5 + zW m0 (zCount 8300 X.1 X.2)) (n := 60 + 4 * zW m0 (zCount 8300 X.1 X.2)) (zRx_w5 (k := 2) (by decide)).1 (zRx_w5 (k := 2) (by decide)).2 ?_
  refine zz_istore (pc := 19) C dL_isSignalled_19 (Nat.le_of_ble_eq_true rfl) ?_
  refine zV.less (L' := [some (.ref (x)), some (.int (nI k9)), some (.int (nI s9)), some (.int (zCon σ k9)), some (.int (σ 12 k9)), some (.int (0)), none, none]) ⟨rfl, rfl, rfl, rfl, rfl, rfl, trivial⟩ ?_
  refine zz_iload_n (pc := 21) C dL_isSignalled_21 rfl ?_
  refine zz_bipush (pc := 22) C (v := 8) (by decide) dL_isSignalled_22 ?_
  refine zz_icmp_le (pc := 24) C (tgt := 40) dL_isSignalled_24 (by decide) (fun hc24 => ?_) (fun hc24 => ?_)
  · refine zz_aload_n (pc := 40) C dL_isSignalled_40 rfl ?_
    refine zz_iload_n (pc := 41) C dL_isSignalled_41 rfl ?_
    refine zz_callV (pc := 42) C (q_exists l D hC1 h1 hk (k := k9)) gL_isSignalled_X2_exists rfl 1 (by decide +kernel) ⟨Nat.le_of_ble_eq_true rfl, Nat.le_of_ble_eq_true rfl⟩ hC1.x (ci := 2) rfl rfl rfl dL_isSignalled_42 rfl (Nat.le_of_ble_eq_true rfl) rfl hrc ?_
    rintro v G9 ⟨rfl, rfl⟩
    refine zz_if_eq (pc := 45) C (tgt := 57) dL_isSignalled_45 (by decide) (fun hc45 => ?_) (fun hc45 => ?_)
    · refine zz_iconst (pc := 57) C (v := 1) (by decide) dL_isSignalled_57 ?_
      refine zz_goto (pc := 58) C (tgt := 62) dL_isSignalled_58 (by decide) ?_
      exact zV.topK (K62 _ hC1) ((zb_t (show zGone τ k9 from Or.inl (zb_eqn hc45))).symm)
    · refine zz_aload_n (pc := 48) C dL_isSignalled_48 rfl ?_
      refine zz_iload_n (pc := 49) C dL_isSignalled_49 rfl ?_
      refine zz_callV (pc := 50) C (q_state l D hC1 h1 hk (zbp hc45) (k := k9)) gL_isSignalled_X2_state rfl 1 (by decide +kernel) ⟨Nat.le_of_ble_eq_true rfl, Nat.le_of_ble_eq_true rfl⟩ hC1.x (ci := 2) rfl rfl rfl dL_isSignalled_50 rfl (Nat.le_of_ble_eq_true rfl) rfl hrc ?_
      rintro v G9 ⟨rfl, rfl⟩
      refine zz_iconst (pc := 53) C (v := 3) (by decide) dL_isSignalled_53 ?_
      refine zz_icmp_ne (pc := 54) C (tgt := 61) dL_isSignalled_54 (by decide) (fun hc54 => ?_) (fun hc54 => ?_)
      · refine zz_iconst (pc := 61) C (v := 0) (by decide) dL_isSignalled_61 ?_
        exact zV.topK (K62 _ hC1) ((zb_f (show ¬ zGone τ k9 from fun z => z.elim (zb_ne0 hc45) (fun y => hc54 (zCon_3.mpr y)))).symm)
      · refine zz_iconst (pc := 57) C (v := 1) (by decide) dL_isSignalled_57 ?_
        refine zz_goto (pc := 58) C (tgt := 62) dL_isSignalled_58 (by decide) ?_
        exact zV.topK (K62 _ hC1) ((zb_t (show zGone τ k9 from Or.inr (zCon_3.mp (Classical.not_not.mp hc54)))).symm)
  · exact absurd (z8le hs) hc24
set_option maxHeartbeats 4000000 in
set_option maxRecDepth 100000 in
theorem c_L_isSignalled_k (l : Launch) (hl : l.stackTraces = false) (D : va_G) {B G : zG} {x tb ev : Nat} {A : Nat → Nat} {σ : zS} {m0 : Nat} (hC : zCl B x tb ev A σ [] 0 m0 G) {k9 s9 : Nat} {X : zS × List zEv} (hI : zIv 0 σ []) (h1 : 1 ≤ k9) (hk : k9 < 41) (h0 : σ 0 k9 ≠ 0) (hs : s9 < 9) (hX : X = (σ, [(s9, k9)])) (hr : zReady 8300 X) (hz : k9 ≠ 1 ∧ σ 4 k9 = 0) (hsx : s9 = 2) : zxMet D l yL_isSignalled wsL_isSignalled (zRmX 12 340 m0 (zCount 8300 X.1 X.2) 20) [.ref x, .int (nI k9), .int (nI s9)] G (fun v G9 => v = some (.int 1) ∧ zLq B x (zFin 8300 X) (max m0 (zCount 8300 X.1 X.2)) G9) (fun _ => False) := by
  refine zxMet_of (cc := cL_isSignalled) (maxL := 8) (ret := (some .boolean)) (by decide) rfl (Nat.le_of_ble_eq_true rfl) ?_
  intro p e s m args below meth c C hnx h8
  have hW := hI.wf
  have hTH : zE2 (¬ zHere σ (nI k9)) (nI s9 < 0 ∨ ¬ nI s9 < 9) = 0 := zE2_0 (fun z => z (zHere_n h1 hk h0)) (z9n hs)
  have hI1 : zIv 0 (zFin 8300 X) [] := (show zIv 0 X.1 X.2 by rw [hX]; exact hI.queue).fin hr
  have hfin : zFin 8300 X = zGo 8300 σ [(s9, k9)] := by rw [hX]
  have hg : zGone (zFin 8300 X) k9 := by rw [hfin, hsx]; exact zGo_kill (by decide) hI h0 hz.2 hz.1
  have hrc := zRx_r (m := m0) (T := zCount 8300 X.1 X.2) (f := 12) (l := 340)
  clear hfin
  generalize hτ : zFin 8300 X = τ at hI1 hg ⊢
  have hW1 := hI1.wf
  have K62 : ∀ G9 : zG, zCl B x tb ev A τ [] 0 (max m0 (zCount 8300 X.1 X.2)) G9 → zV p l e (zRmX 12 340 m0 (zCount 8300 X.1 X.2) 20) s m args below meth c D (zA G s.heap.size) (5 + zW m0 (zCount 8300 X.1 X.2)) (60 + 4 * zW m0 (zCount 8300 X.1 X.2)) (zxZ below D G (fun v G9 => v = some (.int 1) ∧ zLq B x τ (max m0 (zCount 8300 X.1 X.2)) G9) (fun _ => False) args s (zRmX 12 340 m0 (zCount 8300 X.1 X.2) 20)) G9 62 [some (.ref x), some (.int (nI k9)), some (.int (nI s9)), some (.int (zCon σ k9)), some (.int (σ 12 k9)), some (.int (0)), none, none] [.int (zb (zGone τ k9))] := by
    intro G9 hC1
    refine zz_istore (pc := 62) C dL_isSignalled_62 (Nat.le_of_ble_eq_true rfl) ?_
    refine zV.less (L' := [some (.ref (x)), some (.int (nI k9)), some (.int (nI s9)), some (.int (zCon σ k9)), some (.int (σ 12 k9)), some (.int (0)), some (.int (zb (zGone τ k9))), none]) ⟨rfl, rfl, rfl, rfl, rfl, rfl, rfl, trivial⟩ ?_
    refine zz_iload_n (pc := 64) C dL_isSignalled_64 rfl ?_
    refine zz_iconst (pc := 65) C (v := 1) (by decide) dL_isSignalled_65 ?_
    refine zz_icmp_eq (pc := 66) C (tgt := 74) dL_isSignalled_66 (by decide) (fun hc66 => ?_) (fun hc66 => ?_)
    · exact absurd (zEq1 hk hc66) hz.1
    · refine zz_iload_n (pc := 69) C dL_isSignalled_69 rfl ?_
      refine zz_iconst (pc := 70) C (v := 3) (by decide) dL_isSignalled_70 ?_
      refine zz_icmp_ne (pc := 71) C (tgt := 108) dL_isSignalled_71 (by decide) (fun hc71 => ?_) (fun hc71 => ?_)
      · refine zz_iload_n (pc := 108) C dL_isSignalled_108 rfl ?_
        refine zz_iconst (pc := 109) C (v := 2) (by decide) dL_isSignalled_109 ?_
        refine zz_icmp_ne (pc := 110) C (tgt := 118) dL_isSignalled_110 (by decide) (fun hc110 => ?_) (fun hc110 => ?_)
        · exact absurd (by rw [hsx]; rfl) hc110
        · refine zz_iload (pc := 113) C dL_isSignalled_113 rfl ?_
          refine zV.top (zb_t hg) ?_
          refine zz_goto (pc := 115) C (tgt := 210) dL_isSignalled_115 (by decide) ?_
          refine zz_istore (pc := 210) C dL_isSignalled_210 (Nat.le_of_ble_eq_true rfl) ?_
          refine zV.less (L' := [some (.ref (x)), some (.int (nI k9)), some (.int (nI s9)), some (.int (zCon σ k9)), some (.int (σ 12 k9)), some (.int (0)), some (.int (zb (zGone τ k9))), some (.int (1))]) ⟨rfl, rfl, rfl, rfl, rfl, rfl, rfl, rfl, trivial⟩ ?_
          refine zz_iload (pc := 212) C dL_isSignalled_212 rfl ?_
          refine zz_if_ne (pc := 214) C (tgt := 226) dL_isSignalled_214 (by decide) (fun hc214 => ?_) (fun hc214 => ?_)
          · exact absurd rfl hc214
          · refine zz_iload (pc := 217) C dL_isSignalled_217 rfl ?_
            refine zz_if_eq (pc := 219) C (tgt := 226) dL_isSignalled_219 (by decide) (fun hc219 => ?_) (fun hc219 => ?_)
            · exact absurd hc219 (by decide)
            · refine zz_iconst (pc := 222) C (v := 1) (by decide) dL_isSignalled_222 ?_
              refine zz_goto (pc := 223) C (tgt := 227) dL_isSignalled_223 (by decide) ?_
              exact zzx_ret (zz_ireturn (pc := 227) C dL_isSignalled_227 (by first | rfl | exact zb_nar) hrc.1 hrc.2 ⟨rfl, ⟨tb, ev, A, hC1⟩⟩)
      · exact absurd hz.2 (zCon_3.mp (Classical.not_not.mp hc71))
  refine zz_aload_n (pc := 0) C dL_isSignalled_0 rfl ?_
  refine zz_iload_n (pc := 1) C dL_isSignalled_1 rfl ?_
  refine zz_callV (pc := 2) C (q_state l D hC h1 hk h0) gL_isSignalled_X2_state rfl 1 (by decide +kernel) ⟨Nat.le_of_ble_eq_true rfl, Nat.le_of_ble_eq_true rfl⟩ hC.x (ci := 2) rfl rfl rfl dL_isSignalled_2 rfl (Nat.le_of_ble_eq_true rfl) rfl (zRx_0 (Nat.le_of_ble_eq_true rfl) (Nat.le_of_ble_eq_true rfl)) ?_
  rintro v G9 ⟨rfl, rfl⟩
  refine zz_istore_n (pc := 5) C dL_isSignalled_5 (Nat.le_of_ble_eq_true rfl) ?_
  refine zV.less (L' := [some (.ref (x)), some (.int (nI k9)), some (.int (nI s9)), some (.int (zCon σ k9)), none, none, none, none]) ⟨rfl, rfl, rfl, rfl, trivial⟩ ?_
  refine zz_aload_n (pc := 6) C dL_isSignalled_6 rfl ?_
  refine zz_iload_n (pc := 7) C dL_isSignalled_7 rfl ?_
  refine zz_callV (pc := 8) C (q_caught l D hC h1 hk h0) gL_isSignalled_X2_caught rfl 1 (by decide +kernel) ⟨Nat.le_of_ble_eq_true rfl, Nat.le_of_ble_eq_true rfl⟩ hC.x (ci := 2) rfl rfl rfl dL_isSignalled_8 rfl (Nat.le_of_ble_eq_true rfl) rfl (zRx_0 (Nat.le_of_ble_eq_true rfl) (Nat.le_of_ble_eq_true rfl)) ?_
  rintro v G9 ⟨rfl, rfl⟩
  refine zz_istore (pc := 11) C dL_isSignalled_11 (Nat.le_of_ble_eq_true rfl) ?_
  refine zV.less (L' := [some (.ref (x)), some (.int (nI k9)), some (.int (nI s9)), some (.int (zCon σ k9)), some (.int (σ 12 k9)), none, none, none]) ⟨rfl, rfl, rfl, rfl, rfl, trivial⟩ ?_
  refine zz_aload_n (pc := 13) C dL_isSignalled_13 rfl ?_
  refine zz_iload_n (pc := 14) C dL_isSignalled_14 rfl ?_
  refine zz_iload_n (pc := 15) C dL_isSignalled_15 rfl ?_
  refine zzx_callSW (pc := 16) C h8 ((c_L_sends l hl D (x9 := nI k9) (s9 := nI s9) (X := X) (N := 8300) hC (by rw [pnn hk, show pn (nI s9) = s9 from nI_clamp (by omega)]; exact hX) (fun _ => hr)).imp (fun _ _ z => z.elim id (fun z => z.elim (fun y => absurd (hTH.symm.trans y.1) (by decide)) (fun z => absurd (hTH.symm.trans z.1) (by decide)))) (fun _ z => z)) gL_isSignalled_L_sends rfl 3 (by decide +kernel) ⟨Nat.le_of_ble_eq_true rfl, Nat.le_of_ble_eq_true rfl⟩ rfl dL_isSignalled_16 rfl (Nat.le_of_ble_eq_true rfl) rfl (zRx_c (k := 2) (by decide)) (fun E hE => hE.elim) ?_
  rintro v G9 ⟨_, rfl, hC1⟩
  rw [hτ] at hC1
  refine zV.widen (k := 5 + zW m0 (zCount 8300 X.1 X.2)) (n := 60 + 4 * zW m0 (zCount 8300 X.1 X.2)) (zRx_w5 (k := 2) (by decide)).1 (zRx_w5 (k := 2) (by decide)).2 ?_
  refine zz_istore (pc := 19) C dL_isSignalled_19 (Nat.le_of_ble_eq_true rfl) ?_
  refine zV.less (L' := [some (.ref (x)), some (.int (nI k9)), some (.int (nI s9)), some (.int (zCon σ k9)), some (.int (σ 12 k9)), some (.int (0)), none, none]) ⟨rfl, rfl, rfl, rfl, rfl, rfl, trivial⟩ ?_
  refine zz_iload_n (pc := 21) C dL_isSignalled_21 rfl ?_
  refine zz_bipush (pc := 22) C (v := 8) (by decide) dL_isSignalled_22 ?_
  refine zz_icmp_le (pc := 24) C (tgt := 40) dL_isSignalled_24 (by decide) (fun hc24 => ?_) (fun hc24 => ?_)
  · refine zz_aload_n (pc := 40) C dL_isSignalled_40 rfl ?_
    refine zz_iload_n (pc := 41) C dL_isSignalled_41 rfl ?_
    refine zz_callV (pc := 42) C (q_exists l D hC1 h1 hk (k := k9)) gL_isSignalled_X2_exists rfl 1 (by decide +kernel) ⟨Nat.le_of_ble_eq_true rfl, Nat.le_of_ble_eq_true rfl⟩ hC1.x (ci := 2) rfl rfl rfl dL_isSignalled_42 rfl (Nat.le_of_ble_eq_true rfl) rfl hrc ?_
    rintro v G9 ⟨rfl, rfl⟩
    refine zz_if_eq (pc := 45) C (tgt := 57) dL_isSignalled_45 (by decide) (fun hc45 => ?_) (fun hc45 => ?_)
    · refine zz_iconst (pc := 57) C (v := 1) (by decide) dL_isSignalled_57 ?_
      refine zz_goto (pc := 58) C (tgt := 62) dL_isSignalled_58 (by decide) ?_
      exact zV.topK (K62 _ hC1) ((zb_t (show zGone τ k9 from Or.inl (zb_eqn hc45))).symm)
    · refine zz_aload_n (pc := 48) C dL_isSignalled_48 rfl ?_
      refine zz_iload_n (pc := 49) C dL_isSignalled_49 rfl ?_
      refine zz_callV (pc := 50) C (q_state l D hC1 h1 hk (zbp hc45) (k := k9)) gL_isSignalled_X2_state rfl 1 (by decide +kernel) ⟨Nat.le_of_ble_eq_true rfl, Nat.le_of_ble_eq_true rfl⟩ hC1.x (ci := 2) rfl rfl rfl dL_isSignalled_50 rfl (Nat.le_of_ble_eq_true rfl) rfl hrc ?_
      rintro v G9 ⟨rfl, rfl⟩
      refine zz_iconst (pc := 53) C (v := 3) (by decide) dL_isSignalled_53 ?_
      refine zz_icmp_ne (pc := 54) C (tgt := 61) dL_isSignalled_54 (by decide) (fun hc54 => ?_) (fun hc54 => ?_)
      · refine zz_iconst (pc := 61) C (v := 0) (by decide) dL_isSignalled_61 ?_
        exact zV.topK (K62 _ hC1) ((zb_f (show ¬ zGone τ k9 from fun z => z.elim (zb_ne0 hc45) (fun y => hc54 (zCon_3.mpr y)))).symm)
      · refine zz_iconst (pc := 57) C (v := 1) (by decide) dL_isSignalled_57 ?_
        refine zz_goto (pc := 58) C (tgt := 62) dL_isSignalled_58 (by decide) ?_
        exact zV.topK (K62 _ hC1) ((zb_t (show zGone τ k9 from Or.inr (zCon_3.mp (Classical.not_not.mp hc54)))).symm)
  · exact absurd (z8le hs) hc24
set_option maxHeartbeats 4000000 in
set_option maxRecDepth 100000 in
theorem c_L_isSignalled_s (l : Launch) (hl : l.stackTraces = false) (D : va_G) {B G : zG} {x tb ev : Nat} {A : Nat → Nat} {σ : zS} {m0 : Nat} (hC : zCl B x tb ev A σ [] 0 m0 G) {k9 s9 : Nat} {X : zS × List zEv} (hI : zIv 0 σ []) (h1 : 1 ≤ k9) (hk : k9 < 41) (h0 : σ 0 k9 ≠ 0) (hs : s9 < 9) (hX : X = (σ, [(s9, k9)])) (hr : zReady 8300 X) (hz : k9 ≠ 1 ∧ σ 4 k9 = 0) (hsx : s9 = 5) : zxMet D l yL_isSignalled wsL_isSignalled (zRmX 12 340 m0 (zCount 8300 X.1 X.2) 20) [.ref x, .int (nI k9), .int (nI s9)] G (fun v G9 => v = some (.int 1) ∧ zLq B x (zFin 8300 X) (max m0 (zCount 8300 X.1 X.2)) G9) (fun _ => False) := by
  refine zxMet_of (cc := cL_isSignalled) (maxL := 8) (ret := (some .boolean)) (by decide) rfl (Nat.le_of_ble_eq_true rfl) ?_
  intro p e s m args below meth c C hnx h8
  have hW := hI.wf
  have hTH : zE2 (¬ zHere σ (nI k9)) (nI s9 < 0 ∨ ¬ nI s9 < 9) = 0 := zE2_0 (fun z => z (zHere_n h1 hk h0)) (z9n hs)
  have hI1 : zIv 0 (zFin 8300 X) [] := (show zIv 0 X.1 X.2 by rw [hX]; exact hI.queue).fin hr
  have hfin : zFin 8300 X = zGo 8300 σ [(s9, k9)] := by rw [hX]
  have hg : zSt3 (zFin 8300 X) k9 := by rw [hfin, hsx]; exact zGo_stop (by decide) hI h0 hz.2 hz.1
  have hrc := zRx_r (m := m0) (T := zCount 8300 X.1 X.2) (f := 12) (l := 340)
  clear hfin
  generalize hτ : zFin 8300 X = τ at hI1 hg ⊢
  have hW1 := hI1.wf
  have K62 : ∀ G9 : zG, zCl B x tb ev A τ [] 0 (max m0 (zCount 8300 X.1 X.2)) G9 → zV p l e (zRmX 12 340 m0 (zCount 8300 X.1 X.2) 20) s m args below meth c D (zA G s.heap.size) (5 + zW m0 (zCount 8300 X.1 X.2)) (60 + 4 * zW m0 (zCount 8300 X.1 X.2)) (zxZ below D G (fun v G9 => v = some (.int 1) ∧ zLq B x τ (max m0 (zCount 8300 X.1 X.2)) G9) (fun _ => False) args s (zRmX 12 340 m0 (zCount 8300 X.1 X.2) 20)) G9 62 [some (.ref x), some (.int (nI k9)), some (.int (nI s9)), some (.int (zCon σ k9)), some (.int (σ 12 k9)), some (.int (0)), none, none] [.int (zb (zGone τ k9))] := by
    intro G9 hC1
    refine zz_istore (pc := 62) C dL_isSignalled_62 (Nat.le_of_ble_eq_true rfl) ?_
    refine zV.less (L' := [some (.ref (x)), some (.int (nI k9)), some (.int (nI s9)), some (.int (zCon σ k9)), some (.int (σ 12 k9)), some (.int (0)), some (.int (zb (zGone τ k9))), none]) ⟨rfl, rfl, rfl, rfl, rfl, rfl, rfl, trivial⟩ ?_
    refine zz_iload_n (pc := 64) C dL_isSignalled_64 rfl ?_
    refine zz_iconst (pc := 65) C (v := 1) (by decide) dL_isSignalled_65 ?_
    refine zz_icmp_eq (pc := 66) C (tgt := 74) dL_isSignalled_66 (by decide) (fun hc66 => ?_) (fun hc66 => ?_)
    · exact absurd (zEq1 hk hc66) hz.1
    · refine zz_iload_n (pc := 69) C dL_isSignalled_69 rfl ?_
      refine zz_iconst (pc := 70) C (v := 3) (by decide) dL_isSignalled_70 ?_
      refine zz_icmp_ne (pc := 71) C (tgt := 108) dL_isSignalled_71 (by decide) (fun hc71 => ?_) (fun hc71 => ?_)
      · refine zz_iload_n (pc := 108) C dL_isSignalled_108 rfl ?_
        refine zz_iconst (pc := 109) C (v := 2) (by decide) dL_isSignalled_109 ?_
        refine zz_icmp_ne (pc := 110) C (tgt := 118) dL_isSignalled_110 (by decide) (fun hc110 => ?_) (fun hc110 => ?_)
        · refine zz_iload_n (pc := 118) C dL_isSignalled_118 rfl ?_
          refine zz_iconst (pc := 119) C (v := 5) (by decide) dL_isSignalled_119 ?_
          refine zz_icmp_ne (pc := 120) C (tgt := 140) dL_isSignalled_120 (by decide) (fun hc120 => ?_) (fun hc120 => ?_)
          · exact absurd (by rw [hsx]; rfl) hc120
          · refine zz_aload_n (pc := 123) C dL_isSignalled_123 rfl ?_
            refine zz_iload_n (pc := 124) C dL_isSignalled_124 rfl ?_
            refine zz_callV (pc := 125) C (q_state l D hC1 h1 hk hg.1 (k := k9)) gL_isSignalled_X2_state rfl 1 (by decide +kernel) ⟨Nat.le_of_ble_eq_true rfl, Nat.le_of_ble_eq_true rfl⟩ hC1.x (ci := 2) rfl rfl rfl dL_isSignalled_125 rfl (Nat.le_of_ble_eq_true rfl) rfl hrc ?_
            rintro v G9 ⟨rfl, rfl⟩
            refine zz_iconst (pc := 128) C (v := 2) (by decide) dL_isSignalled_128 ?_
            refine zz_icmp_ne (pc := 129) C (tgt := 136) dL_isSignalled_129 (by decide) (fun hc129 => ?_) (fun hc129 => ?_)
            · exact absurd (zCon_2.mpr hg.2) hc129
            · refine zz_iconst (pc := 132) C (v := 1) (by decide) dL_isSignalled_132 ?_
              refine zz_goto (pc := 133) C (tgt := 210) dL_isSignalled_133 (by decide) ?_
              refine zz_istore (pc := 210) C dL_isSignalled_210 (Nat.le_of_ble_eq_true rfl) ?_
              refine zV.less (L' := [some (.ref (x)), some (.int (nI k9)), some (.int (nI s9)), some (.int (zCon σ k9)), some (.int (σ 12 k9)), some (.int (0)), some (.int (zb (zGone τ k9))), some (.int (1))]) ⟨rfl, rfl, rfl, rfl, rfl, rfl, rfl, rfl, trivial⟩ ?_
              refine zz_iload (pc := 212) C dL_isSignalled_212 rfl ?_
              refine zz_if_ne (pc := 214) C (tgt := 226) dL_isSignalled_214 (by decide) (fun hc214 => ?_) (fun hc214 => ?_)
              · exact absurd rfl hc214
              · refine zz_iload (pc := 217) C dL_isSignalled_217 rfl ?_
                refine zz_if_eq (pc := 219) C (tgt := 226) dL_isSignalled_219 (by decide) (fun hc219 => ?_) (fun hc219 => ?_)
                · exact absurd hc219 (by decide)
                · refine zz_iconst (pc := 222) C (v := 1) (by decide) dL_isSignalled_222 ?_
                  refine zz_goto (pc := 223) C (tgt := 227) dL_isSignalled_223 (by decide) ?_
                  exact zzx_ret (zz_ireturn (pc := 227) C dL_isSignalled_227 (by first | rfl | exact zb_nar) hrc.1 hrc.2 ⟨rfl, ⟨tb, ev, A, hC1⟩⟩)
        · exact absurd (zSeq (t := 2) hs (by decide) (Classical.not_not.mp hc110)) (by omega)
      · exact absurd hz.2 (zCon_3.mp (Classical.not_not.mp hc71))
  refine zz_aload_n (pc := 0) C dL_isSignalled_0 rfl ?_
  refine zz_iload_n (pc := 1) C dL_isSignalled_1 rfl ?_
  refine zz_callV (pc := 2) C (q_state l D hC h1 hk h0) gL_isSignalled_X2_state rfl 1 (by decide +kernel) ⟨Nat.le_of_ble_eq_true rfl, Nat.le_of_ble_eq_true rfl⟩ hC.x (ci := 2) rfl rfl rfl dL_isSignalled_2 rfl (Nat.le_of_ble_eq_true rfl) rfl (zRx_0 (Nat.le_of_ble_eq_true rfl) (Nat.le_of_ble_eq_true rfl)) ?_
  rintro v G9 ⟨rfl, rfl⟩
  refine zz_istore_n (pc := 5) C dL_isSignalled_5 (Nat.le_of_ble_eq_true rfl) ?_
  refine zV.less (L' := [some (.ref (x)), some (.int (nI k9)), some (.int (nI s9)), some (.int (zCon σ k9)), none, none, none, none]) ⟨rfl, rfl, rfl, rfl, trivial⟩ ?_
  refine zz_aload_n (pc := 6) C dL_isSignalled_6 rfl ?_
  refine zz_iload_n (pc := 7) C dL_isSignalled_7 rfl ?_
  refine zz_callV (pc := 8) C (q_caught l D hC h1 hk h0) gL_isSignalled_X2_caught rfl 1 (by decide +kernel) ⟨Nat.le_of_ble_eq_true rfl, Nat.le_of_ble_eq_true rfl⟩ hC.x (ci := 2) rfl rfl rfl dL_isSignalled_8 rfl (Nat.le_of_ble_eq_true rfl) rfl (zRx_0 (Nat.le_of_ble_eq_true rfl) (Nat.le_of_ble_eq_true rfl)) ?_
  rintro v G9 ⟨rfl, rfl⟩
  refine zz_istore (pc := 11) C dL_isSignalled_11 (Nat.le_of_ble_eq_true rfl) ?_
  refine zV.less (L' := [some (.ref (x)), some (.int (nI k9)), some (.int (nI s9)), some (.int (zCon σ k9)), some (.int (σ 12 k9)), none, none, none]) ⟨rfl, rfl, rfl, rfl, rfl, trivial⟩ ?_
  refine zz_aload_n (pc := 13) C dL_isSignalled_13 rfl ?_
  refine zz_iload_n (pc := 14) C dL_isSignalled_14 rfl ?_
  refine zz_iload_n (pc := 15) C dL_isSignalled_15 rfl ?_
  refine zzx_callSW (pc := 16) C h8 ((c_L_sends l hl D (x9 := nI k9) (s9 := nI s9) (X := X) (N := 8300) hC (by rw [pnn hk, show pn (nI s9) = s9 from nI_clamp (by omega)]; exact hX) (fun _ => hr)).imp (fun _ _ z => z.elim id (fun z => z.elim (fun y => absurd (hTH.symm.trans y.1) (by decide)) (fun z => absurd (hTH.symm.trans z.1) (by decide)))) (fun _ z => z)) gL_isSignalled_L_sends rfl 3 (by decide +kernel) ⟨Nat.le_of_ble_eq_true rfl, Nat.le_of_ble_eq_true rfl⟩ rfl dL_isSignalled_16 rfl (Nat.le_of_ble_eq_true rfl) rfl (zRx_c (k := 2) (by decide)) (fun E hE => hE.elim) ?_
  rintro v G9 ⟨_, rfl, hC1⟩
  rw [hτ] at hC1
  refine zV.widen (k := 5 + zW m0 (zCount 8300 X.1 X.2)) (n := 60 + 4 * zW m0 (zCount 8300 X.1 X.2)) (zRx_w5 (k := 2) (by decide)).1 (zRx_w5 (k := 2) (by decide)).2 ?_
  refine zz_istore (pc := 19) C dL_isSignalled_19 (Nat.le_of_ble_eq_true rfl) ?_
  refine zV.less (L' := [some (.ref (x)), some (.int (nI k9)), some (.int (nI s9)), some (.int (zCon σ k9)), some (.int (σ 12 k9)), some (.int (0)), none, none]) ⟨rfl, rfl, rfl, rfl, rfl, rfl, trivial⟩ ?_
  refine zz_iload_n (pc := 21) C dL_isSignalled_21 rfl ?_
  refine zz_bipush (pc := 22) C (v := 8) (by decide) dL_isSignalled_22 ?_
  refine zz_icmp_le (pc := 24) C (tgt := 40) dL_isSignalled_24 (by decide) (fun hc24 => ?_) (fun hc24 => ?_)
  · refine zz_aload_n (pc := 40) C dL_isSignalled_40 rfl ?_
    refine zz_iload_n (pc := 41) C dL_isSignalled_41 rfl ?_
    refine zz_callV (pc := 42) C (q_exists l D hC1 h1 hk (k := k9)) gL_isSignalled_X2_exists rfl 1 (by decide +kernel) ⟨Nat.le_of_ble_eq_true rfl, Nat.le_of_ble_eq_true rfl⟩ hC1.x (ci := 2) rfl rfl rfl dL_isSignalled_42 rfl (Nat.le_of_ble_eq_true rfl) rfl hrc ?_
    rintro v G9 ⟨rfl, rfl⟩
    refine zz_if_eq (pc := 45) C (tgt := 57) dL_isSignalled_45 (by decide) (fun hc45 => ?_) (fun hc45 => ?_)
    · refine zz_iconst (pc := 57) C (v := 1) (by decide) dL_isSignalled_57 ?_
      refine zz_goto (pc := 58) C (tgt := 62) dL_isSignalled_58 (by decide) ?_
      exact zV.topK (K62 _ hC1) ((zb_t (show zGone τ k9 from Or.inl (zb_eqn hc45))).symm)
    · refine zz_aload_n (pc := 48) C dL_isSignalled_48 rfl ?_
      refine zz_iload_n (pc := 49) C dL_isSignalled_49 rfl ?_
      refine zz_callV (pc := 50) C (q_state l D hC1 h1 hk (zbp hc45) (k := k9)) gL_isSignalled_X2_state rfl 1 (by decide +kernel) ⟨Nat.le_of_ble_eq_true rfl, Nat.le_of_ble_eq_true rfl⟩ hC1.x (ci := 2) rfl rfl rfl dL_isSignalled_50 rfl (Nat.le_of_ble_eq_true rfl) rfl hrc ?_
      rintro v G9 ⟨rfl, rfl⟩
      refine zz_iconst (pc := 53) C (v := 3) (by decide) dL_isSignalled_53 ?_
      refine zz_icmp_ne (pc := 54) C (tgt := 61) dL_isSignalled_54 (by decide) (fun hc54 => ?_) (fun hc54 => ?_)
      · refine zz_iconst (pc := 61) C (v := 0) (by decide) dL_isSignalled_61 ?_
        exact zV.topK (K62 _ hC1) ((zb_f (show ¬ zGone τ k9 from fun z => z.elim (zb_ne0 hc45) (fun y => hc54 (zCon_3.mpr y)))).symm)
      · refine zz_iconst (pc := 57) C (v := 1) (by decide) dL_isSignalled_57 ?_
        refine zz_goto (pc := 58) C (tgt := 62) dL_isSignalled_58 (by decide) ?_
        exact zV.topK (K62 _ hC1) ((zb_t (show zGone τ k9 from Or.inr (zCon_3.mp (Classical.not_not.mp hc54)))).symm)
  · exact absurd (z8le hs) hc24
set_option maxHeartbeats 4000000 in
set_option maxRecDepth 100000 in
theorem c_L_isSignalled_c (l : Launch) (hl : l.stackTraces = false) (D : va_G) {B G : zG} {x tb ev : Nat} {A : Nat → Nat} {σ : zS} {m0 : Nat} (hC : zCl B x tb ev A σ [] 0 m0 G) {k9 s9 : Nat} {X : zS × List zEv} (hI : zIv 0 σ []) (h1 : 1 ≤ k9) (hk : k9 < 41) (h0 : σ 0 k9 ≠ 0) (hs : s9 < 9) (hX : X = (σ, [(s9, k9)])) (hr : zReady 8300 X) (hz : k9 ≠ 1 ∧ σ 4 k9 = 0) (hsx : s9 = 7) : zxMet D l yL_isSignalled wsL_isSignalled (zRmX 12 340 m0 (zCount 8300 X.1 X.2) 20) [.ref x, .int (nI k9), .int (nI s9)] G (fun v G9 => v = some (.int 1) ∧ zLq B x (zFin 8300 X) (max m0 (zCount 8300 X.1 X.2)) G9) (fun _ => False) := by
  refine zxMet_of (cc := cL_isSignalled) (maxL := 8) (ret := (some .boolean)) (by decide) rfl (Nat.le_of_ble_eq_true rfl) ?_
  intro p e s m args below meth c C hnx h8
  have hW := hI.wf
  have hTH : zE2 (¬ zHere σ (nI k9)) (nI s9 < 0 ∨ ¬ nI s9 < 9) = 0 := zE2_0 (fun z => z (zHere_n h1 hk h0)) (z9n hs)
  have hI1 : zIv 0 (zFin 8300 X) [] := (show zIv 0 X.1 X.2 by rw [hX]; exact hI.queue).fin hr
  have hfin : zFin 8300 X = zGo 8300 σ [(s9, k9)] := by rw [hX]
  have hg : zGone (zFin 8300 X) k9 ∨ (zFin 8300 X 5 k9 = 0 ∧ zbit (zFin 8300 X 11 k9) 6 = false) := by rw [hfin, hsx]; exact zGo_cont (by decide) hI h0 hz.2 hz.1
  have hrc := zRx_r (m := m0) (T := zCount 8300 X.1 X.2) (f := 12) (l := 340)
  clear hfin
  generalize hτ : zFin 8300 X = τ at hI1 hg ⊢
  have hW1 := hI1.wf
  have K62 : ∀ G9 : zG, zCl B x tb ev A τ [] 0 (max m0 (zCount 8300 X.1 X.2)) G9 → zV p l e (zRmX 12 340 m0 (zCount 8300 X.1 X.2) 20) s m args below meth c D (zA G s.heap.size) (5 + zW m0 (zCount 8300 X.1 X.2)) (60 + 4 * zW m0 (zCount 8300 X.1 X.2)) (zxZ below D G (fun v G9 => v = some (.int 1) ∧ zLq B x τ (max m0 (zCount 8300 X.1 X.2)) G9) (fun _ => False) args s (zRmX 12 340 m0 (zCount 8300 X.1 X.2) 20)) G9 62 [some (.ref x), some (.int (nI k9)), some (.int (nI s9)), some (.int (zCon σ k9)), some (.int (σ 12 k9)), some (.int (0)), none, none] [.int (zb (zGone τ k9))] := by
    intro G9 hC1
    refine zz_istore (pc := 62) C dL_isSignalled_62 (Nat.le_of_ble_eq_true rfl) ?_
    refine zV.less (L' := [some (.ref (x)), some (.int (nI k9)), some (.int (nI s9)), some (.int (zCon σ k9)), some (.int (σ 12 k9)), some (.int (0)), some (.int (zb (zGone τ k9))), none]) ⟨rfl, rfl, rfl, rfl, rfl, rfl, rfl, trivial⟩ ?_
    refine zz_iload_n (pc := 64) C dL_isSignalled_64 rfl ?_
    refine zz_iconst (pc := 65) C (v := 1) (by decide) dL_isSignalled_65 ?_
    refine zz_icmp_eq (pc := 66) C (tgt := 74) dL_isSignalled_66 (by decide) (fun hc66 => ?_) (fun hc66 => ?_)
    · exact absurd (zEq1 hk hc66) hz.1
    · refine zz_iload_n (pc := 69) C dL_isSignalled_69 rfl ?_
      refine zz_iconst (pc := 70) C (v := 3) (by decide) dL_isSignalled_70 ?_
      refine zz_icmp_ne (pc := 71) C (tgt := 108) dL_isSignalled_71 (by decide) (fun hc71 => ?_) (fun hc71 => ?_)
      · refine zz_iload_n (pc := 108) C dL_isSignalled_108 rfl ?_
        refine zz_iconst (pc := 109) C (v := 2) (by decide) dL_isSignalled_109 ?_
        refine zz_icmp_ne (pc := 110) C (tgt := 118) dL_isSignalled_110 (by decide) (fun hc110 => ?_) (fun hc110 => ?_)
        · refine zz_iload_n (pc := 118) C dL_isSignalled_118 rfl ?_
          refine zz_iconst (pc := 119) C (v := 5) (by decide) dL_isSignalled_119 ?_
          refine zz_icmp_ne (pc := 120) C (tgt := 140) dL_isSignalled_120 (by decide) (fun hc120 => ?_) (fun hc120 => ?_)
          · refine zz_iload_n (pc := 140) C dL_isSignalled_140 rfl ?_
            refine zz_bipush (pc := 141) C (v := 7) (by decide) dL_isSignalled_141 ?_
            refine zz_icmp_ne (pc := 143) C (tgt := 181) dL_isSignalled_143 (by decide) (fun hc143 => ?_) (fun hc143 => ?_)
            · exact absurd (by rw [hsx]; rfl) hc143
            · refine zz_iload (pc := 146) C dL_isSignalled_146 rfl ?_
              refine zz_if_ne (pc := 148) C (tgt := 173) dL_isSignalled_148 (by decide) (fun hc148 => ?_) (fun hc148 => ?_)
              · refine zz_iconst (pc := 173) C (v := 1) (by decide) dL_isSignalled_173 ?_
                refine zz_goto (pc := 174) C (tgt := 210) dL_isSignalled_174 (by decide) ?_
                refine zz_istore (pc := 210) C dL_isSignalled_210 (Nat.le_of_ble_eq_true rfl) ?_
                refine zV.less (L' := [some (.ref (x)), some (.int (nI k9)), some (.int (nI s9)), some (.int (zCon σ k9)), some (.int (σ 12 k9)), some (.int (0)), some (.int (zb (zGone τ k9))), some (.int (1))]) ⟨rfl, rfl, rfl, rfl, rfl, rfl, rfl, rfl, trivial⟩ ?_
                refine zz_iload (pc := 212) C dL_isSignalled_212 rfl ?_
                refine zz_if_ne (pc := 214) C (tgt := 226) dL_isSignalled_214 (by decide) (fun hc214 => ?_) (fun hc214 => ?_)
                · exact absurd rfl hc214
                · refine zz_iload (pc := 217) C dL_isSignalled_217 rfl ?_
                  refine zz_if_eq (pc := 219) C (tgt := 226) dL_isSignalled_219 (by decide) (fun hc219 => ?_) (fun hc219 => ?_)
                  · exact absurd hc219 (by decide)
                  · refine zz_iconst (pc := 222) C (v := 1) (by decide) dL_isSignalled_222 ?_
                    refine zz_goto (pc := 223) C (tgt := 227) dL_isSignalled_223 (by decide) ?_
                    exact zzx_ret (zz_ireturn (pc := 227) C dL_isSignalled_227 (by first | rfl | exact zb_nar) hrc.1 hrc.2 ⟨rfl, ⟨tb, ev, A, hC1⟩⟩)
              · have hng : ¬ zGone τ k9 := fun z => hc148 (zb_ne.mpr z)
                have hgc := hg.resolve_left hng
                refine zz_aload_n (pc := 151) C dL_isSignalled_151 rfl ?_
                refine zz_iload_n (pc := 152) C dL_isSignalled_152 rfl ?_
                refine zz_callV (pc := 153) C (q_state l D hC1 h1 hk (fun z => hng (Or.inl z)) (k := k9)) gL_isSignalled_X2_state rfl 1 (by decide +kernel) ⟨Nat.le_of_ble_eq_true rfl, Nat.le_of_ble_eq_true rfl⟩ hC1.x (ci := 2) rfl rfl rfl dL_isSignalled_153 rfl (Nat.le_of_ble_eq_true rfl) rfl hrc ?_
                rintro v G9 ⟨rfl, rfl⟩
                refine zz_iconst (pc := 156) C (v := 2) (by decide) dL_isSignalled_156 ?_
                refine zz_icmp_eq (pc := 157) C (tgt := 177) dL_isSignalled_157 (by decide) (fun hc157 => ?_) (fun hc157 => ?_)
                · exact absurd hgc.1 (zCon_2.mp hc157).2
                · refine zz_aload_n (pc := 160) C dL_isSignalled_160 rfl ?_
                  refine zz_iload_n (pc := 161) C dL_isSignalled_161 rfl ?_
                  refine zz_callV (pc := 162) C (q_pending l D hC1 h1 hk (fun z => hng (Or.inl z)) (k := k9)) gL_isSignalled_X2_pending rfl 1 (by decide +kernel) ⟨Nat.le_of_ble_eq_true rfl, Nat.le_of_ble_eq_true rfl⟩ hC1.x (ci := 2) rfl rfl rfl dL_isSignalled_162 rfl (Nat.le_of_ble_eq_true rfl) rfl hrc ?_
                  rintro v G9 ⟨rfl, rfl⟩
                  refine zz_bipush (pc := 165) C (v := 6) (by decide) dL_isSignalled_165 ?_
                  refine zz_ishr (pc := 167) C dL_isSignalled_167 ?_
                  refine zz_iconst (pc := 168) C (v := 1) (by decide) dL_isSignalled_168 ?_
                  refine zz_iand (pc := 169) C dL_isSignalled_169 ?_
                  refine zz_if_ne (pc := 170) C (tgt := 177) dL_isSignalled_170 (by decide) (fun hc170 => ?_) (fun hc170 => ?_)
                  · exact absurd ((zshr0 (s := 6) (by decide)).mpr hgc.2) hc170
                  · refine zz_iconst (pc := 173) C (v := 1) (by decide) dL_isSignalled_173 ?_
                    refine zz_goto (pc := 174) C (tgt := 210) dL_isSignalled_174 (by decide) ?_
                    refine zz_istore (pc := 210) C dL_isSignalled_210 (Nat.le_of_ble_eq_true rfl) ?_
                    refine zV.less (L' := [some (.ref (x)), some (.int (nI k9)), some (.int (nI s9)), some (.int (zCon σ k9)), some (.int (σ 12 k9)), some (.int (0)), some (.int (zb (zGone τ k9))), some (.int (1))]) ⟨rfl, rfl, rfl, rfl, rfl, rfl, rfl, rfl, trivial⟩ ?_
                    refine zz_iload (pc := 212) C dL_isSignalled_212 rfl ?_
                    refine zz_if_ne (pc := 214) C (tgt := 226) dL_isSignalled_214 (by decide) (fun hc214 => ?_) (fun hc214 => ?_)
                    · exact absurd rfl hc214
                    · refine zz_iload (pc := 217) C dL_isSignalled_217 rfl ?_
                      refine zz_if_eq (pc := 219) C (tgt := 226) dL_isSignalled_219 (by decide) (fun hc219 => ?_) (fun hc219 => ?_)
                      · exact absurd hc219 (by decide)
                      · refine zz_iconst (pc := 222) C (v := 1) (by decide) dL_isSignalled_222 ?_
                        refine zz_goto (pc := 223) C (tgt := 227) dL_isSignalled_223 (by decide) ?_
                        exact zzx_ret (zz_ireturn (pc := 227) C dL_isSignalled_227 (by first | rfl | exact zb_nar) hrc.1 hrc.2 ⟨rfl, ⟨tb, ev, A, hC1⟩⟩)
          · exact absurd (zSeq (t := 5) hs (by decide) (Classical.not_not.mp hc120)) (by omega)
        · exact absurd (zSeq (t := 2) hs (by decide) (Classical.not_not.mp hc110)) (by omega)
      · exact absurd hz.2 (zCon_3.mp (Classical.not_not.mp hc71))
  refine zz_aload_n (pc := 0) C dL_isSignalled_0 rfl ?_
  refine zz_iload_n (pc := 1) C dL_isSignalled_1 rfl ?_
  refine zz_callV (pc := 2) C (q_state l D hC h1 hk h0) gL_isSignalled_X2_state rfl 1 (by decide +kernel) ⟨Nat.le_of_ble_eq_true rfl, Nat.le_of_ble_eq_true rfl⟩ hC.x (ci := 2) rfl rfl rfl dL_isSignalled_2 rfl (Nat.le_of_ble_eq_true rfl) rfl (zRx_0 (Nat.le_of_ble_eq_true rfl) (Nat.le_of_ble_eq_true rfl)) ?_
  rintro v G9 ⟨rfl, rfl⟩
  refine zz_istore_n (pc := 5) C dL_isSignalled_5 (Nat.le_of_ble_eq_true rfl) ?_
  refine zV.less (L' := [some (.ref (x)), some (.int (nI k9)), some (.int (nI s9)), some (.int (zCon σ k9)), none, none, none, none]) ⟨rfl, rfl, rfl, rfl, trivial⟩ ?_
  refine zz_aload_n (pc := 6) C dL_isSignalled_6 rfl ?_
  refine zz_iload_n (pc := 7) C dL_isSignalled_7 rfl ?_
  refine zz_callV (pc := 8) C (q_caught l D hC h1 hk h0) gL_isSignalled_X2_caught rfl 1 (by decide +kernel) ⟨Nat.le_of_ble_eq_true rfl, Nat.le_of_ble_eq_true rfl⟩ hC.x (ci := 2) rfl rfl rfl dL_isSignalled_8 rfl (Nat.le_of_ble_eq_true rfl) rfl (zRx_0 (Nat.le_of_ble_eq_true rfl) (Nat.le_of_ble_eq_true rfl)) ?_
  rintro v G9 ⟨rfl, rfl⟩
  refine zz_istore (pc := 11) C dL_isSignalled_11 (Nat.le_of_ble_eq_true rfl) ?_
  refine zV.less (L' := [some (.ref (x)), some (.int (nI k9)), some (.int (nI s9)), some (.int (zCon σ k9)), some (.int (σ 12 k9)), none, none, none]) ⟨rfl, rfl, rfl, rfl, rfl, trivial⟩ ?_
  refine zz_aload_n (pc := 13) C dL_isSignalled_13 rfl ?_
  refine zz_iload_n (pc := 14) C dL_isSignalled_14 rfl ?_
  refine zz_iload_n (pc := 15) C dL_isSignalled_15 rfl ?_
  refine zzx_callSW (pc := 16) C h8 ((c_L_sends l hl D (x9 := nI k9) (s9 := nI s9) (X := X) (N := 8300) hC (by rw [pnn hk, show pn (nI s9) = s9 from nI_clamp (by omega)]; exact hX) (fun _ => hr)).imp (fun _ _ z => z.elim id (fun z => z.elim (fun y => absurd (hTH.symm.trans y.1) (by decide)) (fun z => absurd (hTH.symm.trans z.1) (by decide)))) (fun _ z => z)) gL_isSignalled_L_sends rfl 3 (by decide +kernel) ⟨Nat.le_of_ble_eq_true rfl, Nat.le_of_ble_eq_true rfl⟩ rfl dL_isSignalled_16 rfl (Nat.le_of_ble_eq_true rfl) rfl (zRx_c (k := 2) (by decide)) (fun E hE => hE.elim) ?_
  rintro v G9 ⟨_, rfl, hC1⟩
  rw [hτ] at hC1
  refine zV.widen (k := 5 + zW m0 (zCount 8300 X.1 X.2)) (n := 60 + 4 * zW m0 (zCount 8300 X.1 X.2)) (zRx_w5 (k := 2) (by decide)).1 (zRx_w5 (k := 2) (by decide)).2 ?_
  refine zz_istore (pc := 19) C dL_isSignalled_19 (Nat.le_of_ble_eq_true rfl) ?_
  refine zV.less (L' := [some (.ref (x)), some (.int (nI k9)), some (.int (nI s9)), some (.int (zCon σ k9)), some (.int (σ 12 k9)), some (.int (0)), none, none]) ⟨rfl, rfl, rfl, rfl, rfl, rfl, trivial⟩ ?_
  refine zz_iload_n (pc := 21) C dL_isSignalled_21 rfl ?_
  refine zz_bipush (pc := 22) C (v := 8) (by decide) dL_isSignalled_22 ?_
  refine zz_icmp_le (pc := 24) C (tgt := 40) dL_isSignalled_24 (by decide) (fun hc24 => ?_) (fun hc24 => ?_)
  · refine zz_aload_n (pc := 40) C dL_isSignalled_40 rfl ?_
    refine zz_iload_n (pc := 41) C dL_isSignalled_41 rfl ?_
    refine zz_callV (pc := 42) C (q_exists l D hC1 h1 hk (k := k9)) gL_isSignalled_X2_exists rfl 1 (by decide +kernel) ⟨Nat.le_of_ble_eq_true rfl, Nat.le_of_ble_eq_true rfl⟩ hC1.x (ci := 2) rfl rfl rfl dL_isSignalled_42 rfl (Nat.le_of_ble_eq_true rfl) rfl hrc ?_
    rintro v G9 ⟨rfl, rfl⟩
    refine zz_if_eq (pc := 45) C (tgt := 57) dL_isSignalled_45 (by decide) (fun hc45 => ?_) (fun hc45 => ?_)
    · refine zz_iconst (pc := 57) C (v := 1) (by decide) dL_isSignalled_57 ?_
      refine zz_goto (pc := 58) C (tgt := 62) dL_isSignalled_58 (by decide) ?_
      exact zV.topK (K62 _ hC1) ((zb_t (show zGone τ k9 from Or.inl (zb_eqn hc45))).symm)
    · refine zz_aload_n (pc := 48) C dL_isSignalled_48 rfl ?_
      refine zz_iload_n (pc := 49) C dL_isSignalled_49 rfl ?_
      refine zz_callV (pc := 50) C (q_state l D hC1 h1 hk (zbp hc45) (k := k9)) gL_isSignalled_X2_state rfl 1 (by decide +kernel) ⟨Nat.le_of_ble_eq_true rfl, Nat.le_of_ble_eq_true rfl⟩ hC1.x (ci := 2) rfl rfl rfl dL_isSignalled_50 rfl (Nat.le_of_ble_eq_true rfl) rfl hrc ?_
      rintro v G9 ⟨rfl, rfl⟩
      refine zz_iconst (pc := 53) C (v := 3) (by decide) dL_isSignalled_53 ?_
      refine zz_icmp_ne (pc := 54) C (tgt := 61) dL_isSignalled_54 (by decide) (fun hc54 => ?_) (fun hc54 => ?_)
      · refine zz_iconst (pc := 61) C (v := 0) (by decide) dL_isSignalled_61 ?_
        exact zV.topK (K62 _ hC1) ((zb_f (show ¬ zGone τ k9 from fun z => z.elim (zb_ne0 hc45) (fun y => hc54 (zCon_3.mpr y)))).symm)
      · refine zz_iconst (pc := 57) C (v := 1) (by decide) dL_isSignalled_57 ?_
        refine zz_goto (pc := 58) C (tgt := 62) dL_isSignalled_58 (by decide) ?_
        exact zV.topK (K62 _ hC1) ((zb_t (show zGone τ k9 from Or.inr (zCon_3.mp (Classical.not_not.mp hc54)))).symm)
  · exact absurd (z8le hs) hc24
set_option maxHeartbeats 4000000 in
set_option maxRecDepth 100000 in
theorem c_L_isSignalled_o (l : Launch) (hl : l.stackTraces = false) (D : va_G) {B G : zG} {x tb ev : Nat} {A : Nat → Nat} {σ : zS} {m0 : Nat} (hC : zCl B x tb ev A σ [] 0 m0 G) {k9 s9 : Nat} {X : zS × List zEv} (hI : zIv 0 σ []) (h1 : 1 ≤ k9) (hk : k9 < 41) (h0 : σ 0 k9 ≠ 0) (hs : s9 < 9) (hX : X = (σ, [(s9, k9)])) (hr : zReady 8300 X) (hz : k9 ≠ 1 ∧ σ 4 k9 = 0) (n2 : s9 ≠ 2) (n5 : s9 ≠ 5) (n7 : s9 ≠ 7) : zxMet D l yL_isSignalled wsL_isSignalled (zRmX 12 340 m0 (zCount 8300 X.1 X.2) 20) [.ref x, .int (nI k9), .int (nI s9)] G (fun v G9 => v = some (.int 1) ∧ zLq B x (zFin 8300 X) (max m0 (zCount 8300 X.1 X.2)) G9) (fun _ => False) := by
  refine zxMet_of (cc := cL_isSignalled) (maxL := 8) (ret := (some .boolean)) (by decide) rfl (Nat.le_of_ble_eq_true rfl) ?_
  intro p e s m args below meth c C hnx h8
  have hW := hI.wf
  have hTH : zE2 (¬ zHere σ (nI k9)) (nI s9 < 0 ∨ ¬ nI s9 < 9) = 0 := zE2_0 (fun z => z (zHere_n h1 hk h0)) (z9n hs)
  have hI1 : zIv 0 (zFin 8300 X) [] := (show zIv 0 X.1 X.2 by rw [hX]; exact hI.queue).fin hr
  have hfin : zFin 8300 X = zGo 8300 σ [(s9, k9)] := by rw [hX]
  have hg : σ 5 k9 ≠ 0 → zSt3 (zFin 8300 X) k9 ∧ zFin 8300 X 12 k9 = σ 12 k9 := fun h5 => by rw [hfin]; exact zGo_held (by decide) hs h0 hz.2 hz.1 h5 n2 n7
  have hrc := zRx_r (m := m0) (T := zCount 8300 X.1 X.2) (f := 12) (l := 340)
  clear hfin
  generalize hτ : zFin 8300 X = τ at hI1 hg ⊢
  have hW1 := hI1.wf
  have K62 : ∀ G9 : zG, zCl B x tb ev A τ [] 0 (max m0 (zCount 8300 X.1 X.2)) G9 → zV p l e (zRmX 12 340 m0 (zCount 8300 X.1 X.2) 20) s m args below meth c D (zA G s.heap.size) (5 + zW m0 (zCount 8300 X.1 X.2)) (60 + 4 * zW m0 (zCount 8300 X.1 X.2)) (zxZ below D G (fun v G9 => v = some (.int 1) ∧ zLq B x τ (max m0 (zCount 8300 X.1 X.2)) G9) (fun _ => False) args s (zRmX 12 340 m0 (zCount 8300 X.1 X.2) 20)) G9 62 [some (.ref x), some (.int (nI k9)), some (.int (nI s9)), some (.int (zCon σ k9)), some (.int (σ 12 k9)), some (.int (0)), none, none] [.int (zb (zGone τ k9))] := by
    intro G9 hC1
    refine zz_istore (pc := 62) C dL_isSignalled_62 (Nat.le_of_ble_eq_true rfl) ?_
    refine zV.less (L' := [some (.ref (x)), some (.int (nI k9)), some (.int (nI s9)), some (.int (zCon σ k9)), some (.int (σ 12 k9)), some (.int (0)), some (.int (zb (zGone τ k9))), none]) ⟨rfl, rfl, rfl, rfl, rfl, rfl, rfl, trivial⟩ ?_
    refine zz_iload_n (pc := 64) C dL_isSignalled_64 rfl ?_
    refine zz_iconst (pc := 65) C (v := 1) (by decide) dL_isSignalled_65 ?_
    refine zz_icmp_eq (pc := 66) C (tgt := 74) dL_isSignalled_66 (by decide) (fun hc66 => ?_) (fun hc66 => ?_)
    · exact absurd (zEq1 hk hc66) hz.1
    · refine zz_iload_n (pc := 69) C dL_isSignalled_69 rfl ?_
      refine zz_iconst (pc := 70) C (v := 3) (by decide) dL_isSignalled_70 ?_
      refine zz_icmp_ne (pc := 71) C (tgt := 108) dL_isSignalled_71 (by decide) (fun hc71 => ?_) (fun hc71 => ?_)
      · refine zz_iload_n (pc := 108) C dL_isSignalled_108 rfl ?_
        refine zz_iconst (pc := 109) C (v := 2) (by decide) dL_isSignalled_109 ?_
        refine zz_icmp_ne (pc := 110) C (tgt := 118) dL_isSignalled_110 (by decide) (fun hc110 => ?_) (fun hc110 => ?_)
        · refine zz_iload_n (pc := 118) C dL_isSignalled_118 rfl ?_
          refine zz_iconst (pc := 119) C (v := 5) (by decide) dL_isSignalled_119 ?_
          refine zz_icmp_ne (pc := 120) C (tgt := 140) dL_isSignalled_120 (by decide) (fun hc120 => ?_) (fun hc120 => ?_)
          · refine zz_iload_n (pc := 140) C dL_isSignalled_140 rfl ?_
            refine zz_bipush (pc := 141) C (v := 7) (by decide) dL_isSignalled_141 ?_
            refine zz_icmp_ne (pc := 143) C (tgt := 181) dL_isSignalled_143 (by decide) (fun hc143 => ?_) (fun hc143 => ?_)
            · refine zz_iload_n (pc := 181) C dL_isSignalled_181 rfl ?_
              refine zz_iconst (pc := 182) C (v := 2) (by decide) dL_isSignalled_182 ?_
              refine zz_icmp_ne (pc := 183) C (tgt := 205) dL_isSignalled_183 (by decide) (fun hc183 => ?_) (fun hc183 => ?_)
              · refine zz_iconst (pc := 205) C (v := 1) (by decide) dL_isSignalled_205 ?_
                refine zz_goto (pc := 206) C (tgt := 210) dL_isSignalled_206 (by decide) ?_
                refine zz_istore (pc := 210) C dL_isSignalled_210 (Nat.le_of_ble_eq_true rfl) ?_
                refine zV.less (L' := [some (.ref (x)), some (.int (nI k9)), some (.int (nI s9)), some (.int (zCon σ k9)), some (.int (σ 12 k9)), some (.int (0)), some (.int (zb (zGone τ k9))), some (.int (1))]) ⟨rfl, rfl, rfl, rfl, rfl, rfl, rfl, rfl, trivial⟩ ?_
                refine zz_iload (pc := 212) C dL_isSignalled_212 rfl ?_
                refine zz_if_ne (pc := 214) C (tgt := 226) dL_isSignalled_214 (by decide) (fun hc214 => ?_) (fun hc214 => ?_)
                · exact absurd rfl hc214
                · refine zz_iload (pc := 217) C dL_isSignalled_217 rfl ?_
                  refine zz_if_eq (pc := 219) C (tgt := 226) dL_isSignalled_219 (by decide) (fun hc219 => ?_) (fun hc219 => ?_)
                  · exact absurd hc219 (by decide)
                  · refine zz_iconst (pc := 222) C (v := 1) (by decide) dL_isSignalled_222 ?_
                    refine zz_goto (pc := 223) C (tgt := 227) dL_isSignalled_223 (by decide) ?_
                    exact zzx_ret (zz_ireturn (pc := 227) C dL_isSignalled_227 (by first | rfl | exact zb_nar) hrc.1 hrc.2 ⟨rfl, ⟨tb, ev, A, hC1⟩⟩)
              · have h5 : σ 5 k9 ≠ 0 := (zCon_2.mp (Classical.not_not.mp hc183)).2
                refine zz_aload_n (pc := 186) C dL_isSignalled_186 rfl ?_
                refine zz_iload_n (pc := 187) C dL_isSignalled_187 rfl ?_
                refine zz_callV (pc := 188) C (q_state l D hC1 h1 hk (hg h5).1.1 (k := k9)) gL_isSignalled_X2_state rfl 1 (by decide +kernel) ⟨Nat.le_of_ble_eq_true rfl, Nat.le_of_ble_eq_true rfl⟩ hC1.x (ci := 2) rfl rfl rfl dL_isSignalled_188 rfl (Nat.le_of_ble_eq_true rfl) rfl hrc ?_
                rintro v G9 ⟨rfl, rfl⟩
                refine zz_iconst (pc := 191) C (v := 2) (by decide) dL_isSignalled_191 ?_
                refine zz_icmp_ne (pc := 192) C (tgt := 209) dL_isSignalled_192 (by decide) (fun hc192 => ?_) (fun hc192 => ?_)
                · exact absurd (zCon_2.mpr (hg h5).1.2) hc192
                · refine zz_aload_n (pc := 195) C dL_isSignalled_195 rfl ?_
                  refine zz_iload_n (pc := 196) C dL_isSignalled_196 rfl ?_
                  refine zz_callV (pc := 197) C (q_caught l D hC1 h1 hk (hg h5).1.1 (k := k9)) gL_isSignalled_X2_caught rfl 1 (by decide +kernel) ⟨Nat.le_of_ble_eq_true rfl, Nat.le_of_ble_eq_true rfl⟩ hC1.x (ci := 2) rfl rfl rfl dL_isSignalled_197 rfl (Nat.le_of_ble_eq_true rfl) rfl hrc ?_
                  rintro v G9 ⟨rfl, rfl⟩
                  refine zz_iload (pc := 200) C dL_isSignalled_200 rfl ?_
                  refine zz_icmp_ne (pc := 202) C (tgt := 209) dL_isSignalled_202 (by decide) (fun hc202 => ?_) (fun hc202 => ?_)
                  · exact absurd (hg h5).2 hc202
                  · refine zz_iconst (pc := 205) C (v := 1) (by decide) dL_isSignalled_205 ?_
                    refine zz_goto (pc := 206) C (tgt := 210) dL_isSignalled_206 (by decide) ?_
                    refine zz_istore (pc := 210) C dL_isSignalled_210 (Nat.le_of_ble_eq_true rfl) ?_
                    refine zV.less (L' := [some (.ref (x)), some (.int (nI k9)), some (.int (nI s9)), some (.int (zCon σ k9)), some (.int (σ 12 k9)), some (.int (0)), some (.int (zb (zGone τ k9))), some (.int (1))]) ⟨rfl, rfl, rfl, rfl, rfl, rfl, rfl, rfl, trivial⟩ ?_
                    refine zz_iload (pc := 212) C dL_isSignalled_212 rfl ?_
                    refine zz_if_ne (pc := 214) C (tgt := 226) dL_isSignalled_214 (by decide) (fun hc214 => ?_) (fun hc214 => ?_)
                    · exact absurd rfl hc214
                    · refine zz_iload (pc := 217) C dL_isSignalled_217 rfl ?_
                      refine zz_if_eq (pc := 219) C (tgt := 226) dL_isSignalled_219 (by decide) (fun hc219 => ?_) (fun hc219 => ?_)
                      · exact absurd hc219 (by decide)
                      · refine zz_iconst (pc := 222) C (v := 1) (by decide) dL_isSignalled_222 ?_
                        refine zz_goto (pc := 223) C (tgt := 227) dL_isSignalled_223 (by decide) ?_
                        exact zzx_ret (zz_ireturn (pc := 227) C dL_isSignalled_227 (by first | rfl | exact zb_nar) hrc.1 hrc.2 ⟨rfl, ⟨tb, ev, A, hC1⟩⟩)
            · exact absurd (zSeq (t := 7) hs (by decide) (Classical.not_not.mp hc143)) n7
          · exact absurd (zSeq (t := 5) hs (by decide) (Classical.not_not.mp hc120)) n5
        · exact absurd (zSeq (t := 2) hs (by decide) (Classical.not_not.mp hc110)) n2
      · exact absurd hz.2 (zCon_3.mp (Classical.not_not.mp hc71))
  refine zz_aload_n (pc := 0) C dL_isSignalled_0 rfl ?_
  refine zz_iload_n (pc := 1) C dL_isSignalled_1 rfl ?_
  refine zz_callV (pc := 2) C (q_state l D hC h1 hk h0) gL_isSignalled_X2_state rfl 1 (by decide +kernel) ⟨Nat.le_of_ble_eq_true rfl, Nat.le_of_ble_eq_true rfl⟩ hC.x (ci := 2) rfl rfl rfl dL_isSignalled_2 rfl (Nat.le_of_ble_eq_true rfl) rfl (zRx_0 (Nat.le_of_ble_eq_true rfl) (Nat.le_of_ble_eq_true rfl)) ?_
  rintro v G9 ⟨rfl, rfl⟩
  refine zz_istore_n (pc := 5) C dL_isSignalled_5 (Nat.le_of_ble_eq_true rfl) ?_
  refine zV.less (L' := [some (.ref (x)), some (.int (nI k9)), some (.int (nI s9)), some (.int (zCon σ k9)), none, none, none, none]) ⟨rfl, rfl, rfl, rfl, trivial⟩ ?_
  refine zz_aload_n (pc := 6) C dL_isSignalled_6 rfl ?_
  refine zz_iload_n (pc := 7) C dL_isSignalled_7 rfl ?_
  refine zz_callV (pc := 8) C (q_caught l D hC h1 hk h0) gL_isSignalled_X2_caught rfl 1 (by decide +kernel) ⟨Nat.le_of_ble_eq_true rfl, Nat.le_of_ble_eq_true rfl⟩ hC.x (ci := 2) rfl rfl rfl dL_isSignalled_8 rfl (Nat.le_of_ble_eq_true rfl) rfl (zRx_0 (Nat.le_of_ble_eq_true rfl) (Nat.le_of_ble_eq_true rfl)) ?_
  rintro v G9 ⟨rfl, rfl⟩
  refine zz_istore (pc := 11) C dL_isSignalled_11 (Nat.le_of_ble_eq_true rfl) ?_
  refine zV.less (L' := [some (.ref (x)), some (.int (nI k9)), some (.int (nI s9)), some (.int (zCon σ k9)), some (.int (σ 12 k9)), none, none, none]) ⟨rfl, rfl, rfl, rfl, rfl, trivial⟩ ?_
  refine zz_aload_n (pc := 13) C dL_isSignalled_13 rfl ?_
  refine zz_iload_n (pc := 14) C dL_isSignalled_14 rfl ?_
  refine zz_iload_n (pc := 15) C dL_isSignalled_15 rfl ?_
  refine zzx_callSW (pc := 16) C h8 ((c_L_sends l hl D (x9 := nI k9) (s9 := nI s9) (X := X) (N := 8300) hC (by rw [pnn hk, show pn (nI s9) = s9 from nI_clamp (by omega)]; exact hX) (fun _ => hr)).imp (fun _ _ z => z.elim id (fun z => z.elim (fun y => absurd (hTH.symm.trans y.1) (by decide)) (fun z => absurd (hTH.symm.trans z.1) (by decide)))) (fun _ z => z)) gL_isSignalled_L_sends rfl 3 (by decide +kernel) ⟨Nat.le_of_ble_eq_true rfl, Nat.le_of_ble_eq_true rfl⟩ rfl dL_isSignalled_16 rfl (Nat.le_of_ble_eq_true rfl) rfl (zRx_c (k := 2) (by decide)) (fun E hE => hE.elim) ?_
  rintro v G9 ⟨_, rfl, hC1⟩
  rw [hτ] at hC1
  refine zV.widen (k := 5 + zW m0 (zCount 8300 X.1 X.2)) (n := 60 + 4 * zW m0 (zCount 8300 X.1 X.2)) (zRx_w5 (k := 2) (by decide)).1 (zRx_w5 (k := 2) (by decide)).2 ?_
  refine zz_istore (pc := 19) C dL_isSignalled_19 (Nat.le_of_ble_eq_true rfl) ?_
  refine zV.less (L' := [some (.ref (x)), some (.int (nI k9)), some (.int (nI s9)), some (.int (zCon σ k9)), some (.int (σ 12 k9)), some (.int (0)), none, none]) ⟨rfl, rfl, rfl, rfl, rfl, rfl, trivial⟩ ?_
  refine zz_iload_n (pc := 21) C dL_isSignalled_21 rfl ?_
  refine zz_bipush (pc := 22) C (v := 8) (by decide) dL_isSignalled_22 ?_
  refine zz_icmp_le (pc := 24) C (tgt := 40) dL_isSignalled_24 (by decide) (fun hc24 => ?_) (fun hc24 => ?_)
  · refine zz_aload_n (pc := 40) C dL_isSignalled_40 rfl ?_
    refine zz_iload_n (pc := 41) C dL_isSignalled_41 rfl ?_
    refine zz_callV (pc := 42) C (q_exists l D hC1 h1 hk (k := k9)) gL_isSignalled_X2_exists rfl 1 (by decide +kernel) ⟨Nat.le_of_ble_eq_true rfl, Nat.le_of_ble_eq_true rfl⟩ hC1.x (ci := 2) rfl rfl rfl dL_isSignalled_42 rfl (Nat.le_of_ble_eq_true rfl) rfl hrc ?_
    rintro v G9 ⟨rfl, rfl⟩
    refine zz_if_eq (pc := 45) C (tgt := 57) dL_isSignalled_45 (by decide) (fun hc45 => ?_) (fun hc45 => ?_)
    · refine zz_iconst (pc := 57) C (v := 1) (by decide) dL_isSignalled_57 ?_
      refine zz_goto (pc := 58) C (tgt := 62) dL_isSignalled_58 (by decide) ?_
      exact zV.topK (K62 _ hC1) ((zb_t (show zGone τ k9 from Or.inl (zb_eqn hc45))).symm)
    · refine zz_aload_n (pc := 48) C dL_isSignalled_48 rfl ?_
      refine zz_iload_n (pc := 49) C dL_isSignalled_49 rfl ?_
      refine zz_callV (pc := 50) C (q_state l D hC1 h1 hk (zbp hc45) (k := k9)) gL_isSignalled_X2_state rfl 1 (by decide +kernel) ⟨Nat.le_of_ble_eq_true rfl, Nat.le_of_ble_eq_true rfl⟩ hC1.x (ci := 2) rfl rfl rfl dL_isSignalled_50 rfl (Nat.le_of_ble_eq_true rfl) rfl hrc ?_
      rintro v G9 ⟨rfl, rfl⟩
      refine zz_iconst (pc := 53) C (v := 3) (by decide) dL_isSignalled_53 ?_
      refine zz_icmp_ne (pc := 54) C (tgt := 61) dL_isSignalled_54 (by decide) (fun hc54 => ?_) (fun hc54 => ?_)
      · refine zz_iconst (pc := 61) C (v := 0) (by decide) dL_isSignalled_61 ?_
        exact zV.topK (K62 _ hC1) ((zb_f (show ¬ zGone τ k9 from fun z => z.elim (zb_ne0 hc45) (fun y => hc54 (zCon_3.mpr y)))).symm)
      · refine zz_iconst (pc := 57) C (v := 1) (by decide) dL_isSignalled_57 ?_
        refine zz_goto (pc := 58) C (tgt := 62) dL_isSignalled_58 (by decide) ?_
        exact zV.topK (K62 _ hC1) ((zb_t (show zGone τ k9 from Or.inr (zCon_3.mp (Classical.not_not.mp hc54)))).symm)
  · exact absurd (z8le hs) hc24
