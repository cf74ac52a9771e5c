set_option maxHeartbeats 4000000 in
set_option maxRecDepth 100000 in
theorem c_L_isTerminal_hy (l : Launch) (hl : l.stackTraces = false) (D : va_G) {B G : zG} {x tb ev : Nat} {A : Nat → Nat} {σ : zS} {m0 : Nat} (hC : zCl B x tb ev A σ [] 0 m0 G) {k9 a9 b9 : Nat} {X : zS × List zEv} (hI : zIv 0 σ []) (h1 : 1 ≤ k9) (hk : k9 < 41) (h0 : σ 0 k9 ≠ 0) (ha : a9 < 5000) (hb : b9 < 6000) (hm : a9 % 4 = 3) (hm5 : b9 % 5 = 0) (ht : σ 21 0 ≠ -1) (hX : X = (zFreeT σ, [(0, pn (σ 21 0))])) (hr : zReady 8300 X) : zxMet D l yL_isTerminal wsL_isTerminal (zRmX 12 340 m0 (zCount 8300 X.1 X.2) 20) [.ref x, .int (nI k9), .int (nI a9), .int (nI b9)] G (fun v G9 => v = some (.int 1) ∧ zLq B x (zFin 8300 X) (max m0 (zCount 8300 X.1 X.2)) G9) (fun _ => False) := by
  refine zxMet_of (cc := cL_isTerminal) (maxL := 10) (ret := (some .boolean)) (by decide) rfl (Nat.le_of_ble_eq_true rfl) ?_
  intro p e s m args below meth c C hnx h8
  have hW := hI.wf
  have hTH : zE1 (σ 21 0 = -1) = 0 := zE1_0 ht
  have hrc := zRx_r (m := m0) (T := zCount 8300 X.1 X.2) (f := 12) (l := 340)
  have tq : zFin 8300 X 21 0 = -1 := (zMj.go (n := 8300) hr.1).2.1 (by rw [hX]; rfl)
  generalize hτ : zFin 8300 X = τ at tq ⊢
  have K18 : zV p l e (zRmX 12 340 m0 (zCount 8300 X.1 X.2) 20) s m args below meth c D (zA G s.heap.size) 0 0 (zxZ below D G (fun v G9 => v = some (.int 1) ∧ zLq B x τ (max m0 (zCount 8300 X.1 X.2)) G9) (fun _ => False) args s (zRmX 12 340 m0 (zCount 8300 X.1 X.2) 20)) G 18 [some (.ref x), some (.int (nI k9)), some (.int (nI a9)), some (.int (nI b9)), none, none, none, none, none, none] [.int (zb (¬ zNot σ k9))] := by
    refine zz_istore (pc := 18) C dL_isTerminal_18 (Nat.le_of_ble_eq_true rfl) ?_
    refine zV.less (L' := [some (.ref (x)), some (.int (nI k9)), some (.int (nI a9)), some (.int (nI b9)), some (.int (zb (¬ zNot σ k9))), none, none, none, none, none]) ⟨rfl, rfl, rfl, rfl, rfl, trivial⟩ ?_
    refine zz_aload_n (pc := 20) C dL_isTerminal_20 rfl ?_
    refine zz_callV (pc := 21) C (c_X2_terminalSession l D hC) gL_isTerminal_X2_terminalSession rfl 0 (by decide +kernel) ⟨Nat.le_of_ble_eq_true rfl, Nat.le_of_ble_eq_true rfl⟩ hC.x (ci := 2) rfl rfl rfl dL_isTerminal_21 rfl (Nat.le_of_ble_eq_true rfl) rfl (zRx_0 (Nat.le_of_ble_eq_true rfl) (Nat.le_of_ble_eq_true rfl)) ?_
    rintro v G9 ⟨rfl, rfl⟩
    refine zz_istore (pc := 24) C dL_isTerminal_24 (Nat.le_of_ble_eq_true rfl) ?_
    refine zV.less (L' := [some (.ref (x)), some (.int (nI k9)), some (.int (nI a9)), some (.int (nI b9)), some (.int (zb (¬ zNot σ k9))), some (.int (σ 21 0)), none, none, none, none]) ⟨rfl, rfl, rfl, rfl, rfl, rfl, trivial⟩ ?_
    refine zz_aload_n (pc := 26) C dL_isTerminal_26 rfl ?_
    refine zz_callV (pc := 27) C (c_X2_foreground l D hC) gL_isTerminal_X2_foreground rfl 0 (by decide +kernel) ⟨Nat.le_of_ble_eq_true rfl, Nat.le_of_ble_eq_true rfl⟩ hC.x (ci := 2) rfl rfl rfl dL_isTerminal_27 rfl (Nat.le_of_ble_eq_true rfl) rfl (zRx_0 (Nat.le_of_ble_eq_true rfl) (Nat.le_of_ble_eq_true rfl)) ?_
    rintro v G9 ⟨rfl, rfl⟩
    refine zz_istore (pc := 30) C dL_isTerminal_30 (Nat.le_of_ble_eq_true rfl) ?_
    refine zV.less (L' := [some (.ref (x)), some (.int (nI k9)), some (.int (nI a9)), some (.int (nI b9)), some (.int (zb (¬ zNot σ k9))), some (.int (σ 21 0)), some (.int (σ 22 0)), none, none, none]) ⟨rfl, rfl, rfl, rfl, rfl, rfl, rfl, trivial⟩ ?_
    refine zz_iload_n (pc := 32) C dL_isTerminal_32 rfl ?_
    refine zz_iconst (pc := 33) C (v := 4) (by decide) dL_isTerminal_33 ?_
    refine zz_irem (pc := 34) C (a := a9) (d := 4) dL_isTerminal_34 rfl rfl (by omega) (by decide) (by decide) ?_
    refine zz_iconst (pc := 35) C (v := 2) (by decide) dL_isTerminal_35 ?_
    refine zz_icmp_ge (pc := 36) C (tgt := 126) dL_isTerminal_36 (by decide) (fun hc36 => ?_) (fun hc36 => ?_)
    · refine zz_iload_n (pc := 126) C dL_isTerminal_126 rfl ?_
      refine zz_iconst (pc := 127) C (v := 4) (by decide) dL_isTerminal_127 ?_
      refine zz_irem (pc := 128) C (a := a9) (d := 4) dL_isTerminal_128 rfl rfl (by omega) (by decide) (by decide) ?_
      refine zz_iconst (pc := 129) C (v := 2) (by decide) dL_isTerminal_129 ?_
      refine zz_icmp_ne (pc := 130) C (tgt := 290) dL_isTerminal_130 (by decide) (fun hc130 => ?_) (fun hc130 => ?_)
      · refine zz_iload_n (pc := 290) C dL_isTerminal_290 rfl ?_
        refine zz_iconst (pc := 291) C (v := 5) (by decide) dL_isTerminal_291 ?_
        refine zz_irem (pc := 292) C (a := b9) (d := 5) dL_isTerminal_292 rfl rfl (by omega) (by decide) (by decide) ?_
        refine zz_if_ne (pc := 293) C (tgt := 330) dL_isTerminal_293 (by decide) (fun hc293 => ?_) (fun hc293 => ?_)
        · exact absurd (by rw [hm5]; rfl) hc293
        · refine zz_aload_n (pc := 296) C dL_isTerminal_296 rfl ?_
          refine zzx_callSW (pc := 297) C h8 ((c_L_hangs l hl D (X := X) (N := 8300) hC hW hX (fun _ => hr)).imp (fun _ _ z => z.elim id (fun z => absurd (hTH.symm.trans z.1) (by decide))) (fun _ z => z)) gL_isTerminal_L_hangs rfl 1 (by decide +kernel) ⟨Nat.le_of_ble_eq_true rfl, Nat.le_of_ble_eq_true rfl⟩ rfl dL_isTerminal_297 rfl (Nat.le_of_ble_eq_true rfl) rfl (zRx_c (k := 1) (by decide)) (fun E hE => hE.elim) ?_
          rintro v G9 ⟨_, rfl, hC1⟩
          rw [hτ] at hC1
          refine zV.widen (k := 5 + zW m0 (zCount 8300 X.1 X.2)) (n := 60 + 4 * zW m0 (zCount 8300 X.1 X.2)) (zRx_w5 (k := 1) (by decide)).1 (zRx_w5 (k := 1) (by decide)).2 ?_
          refine zz_iload (pc := 300) C dL_isTerminal_300 rfl ?_
          refine zz_iconst (pc := 302) C (v := -1) (by decide) dL_isTerminal_302 ?_
          refine zz_icmp_ne (pc := 303) C (tgt := 311) dL_isTerminal_303 (by decide) (fun hc303 => ?_) (fun hc303 => ?_)
          · refine zz_iload (pc := 311) C dL_isTerminal_311 rfl ?_
            refine zz_icmp_ne (pc := 313) C (tgt := 328) dL_isTerminal_313 (by decide) (fun hc313 => ?_) (fun hc313 => ?_)
            · exact absurd rfl hc313
            · refine zz_aload_n (pc := 316) C dL_isTerminal_316 rfl ?_
              refine zz_callV (pc := 317) C (c_X2_terminalSession l D hC1) gL_isTerminal_X2_terminalSession rfl 0 (by decide +kernel) ⟨Nat.le_of_ble_eq_true rfl, Nat.le_of_ble_eq_true rfl⟩ hC1.x (ci := 2) rfl rfl rfl dL_isTerminal_317 rfl (Nat.le_of_ble_eq_true rfl) rfl hrc ?_
              rintro v G9 ⟨rfl, rfl⟩
              refine zz_iconst (pc := 320) C (v := -1) (by decide) dL_isTerminal_320 ?_
              refine zz_icmp_ne (pc := 321) C (tgt := 328) dL_isTerminal_321 (by decide) (fun hc321 => ?_) (fun hc321 => ?_)
              · exact absurd tq hc321
              · refine zz_iconst (pc := 324) C (v := 1) (by decide) dL_isTerminal_324 ?_
                refine zz_goto (pc := 325) C (tgt := 329) dL_isTerminal_325 (by decide) ?_
                exact zzx_ret (zz_ireturn (pc := 329) C dL_isTerminal_329 (by first | rfl | exact zb_nar) hrc.1 hrc.2 ⟨rfl, ⟨tb, ev, A, hC1⟩⟩)
          · exact False.elim (ht (Classical.not_not.mp hc303))
      · exact absurd (zM4 (n := 2) (Nat.mod_lt _ (by decide)) (by decide) (Classical.not_not.mp hc130)) (by omega)
    · exact absurd (zM4le (by omega) (Nat.mod_lt _ (by decide))) hc36
  refine zz_iload_n (pc := 0) C dL_isTerminal_0 rfl ?_
  refine zz_iconst (pc := 1) C (v := 1) (by decide) dL_isTerminal_1 ?_
  refine zz_icmp_le (pc := 2) C (tgt := 17) dL_isTerminal_2 (by decide) (fun hc2 => ?_) (fun hc2 => ?_)
  · refine zz_iconst (pc := 17) C (v := 0) (by decide) dL_isTerminal_17 ?_
    exact zV.less (L' := [some (.ref x), some (.int (nI k9)), some (.int (nI a9)), some (.int (nI b9)), none, none, none, none, none, none]) ⟨rfl, rfl, rfl, rfl, trivial⟩ (zV.topK K18 ((zb_f (fun z => z (Or.inl (zLe1 h1 hk hc2)))).symm))
  · refine zz_aload_n (pc := 5) C dL_isTerminal_5 rfl ?_
    refine zz_iload_n (pc := 6) C dL_isTerminal_6 rfl ?_
    refine zz_callV (pc := 7) C (q_state l D hC h1 hk h0) gL_isTerminal_X2_state rfl 1 (by decide +kernel) ⟨Nat.le_of_ble_eq_true rfl, Nat.le_of_ble_eq_true rfl⟩ hC.x (ci := 2) rfl rfl rfl dL_isTerminal_7 rfl (Nat.le_of_ble_eq_true rfl) rfl (zRx_0 (Nat.le_of_ble_eq_true rfl) (Nat.le_of_ble_eq_true rfl)) ?_
    rintro v G9 ⟨rfl, rfl⟩
    refine zz_if_ne (pc := 10) C (tgt := 17) dL_isTerminal_10 (by decide) (fun hc10 => ?_) (fun hc10 => ?_)
    · refine zz_iconst (pc := 17) C (v := 0) (by decide) dL_isTerminal_17 ?_
      exact zV.less (L' := [some (.ref x), some (.int (nI k9)), some (.int (nI a9)), some (.int (nI b9)), none, none, none, none, none, none]) ⟨rfl, rfl, rfl, rfl, trivial⟩ (zV.topK K18 ((zb_f (fun z => z (Or.inr (fun y => hc10 (zCon_0.mpr y))))).symm))
    · refine zz_iconst (pc := 13) C (v := 1) (by decide) dL_isTerminal_13 ?_
      refine zz_goto (pc := 14) C (tgt := 18) dL_isTerminal_14 (by decide) ?_
      exact zV.less (L' := [some (.ref x), some (.int (nI k9)), some (.int (nI a9)), some (.int (nI b9)), none, none, none, none, none, none]) ⟨rfl, rfl, rfl, rfl, trivial⟩ (zV.topK K18 ((zb_t (show ¬ zNot σ k9 from fun z => z.elim (fun y => hc2 (by rw [y]; decide)) (fun y => y (zCon_0.mp (Classical.not_not.mp hc10))))).symm))
set_option maxHeartbeats 4000000 in
set_option maxRecDepth 100000 in
theorem c_L_isTerminal_hn (l : Launch) (hl : l.stackTraces = false) (D : va_G) {B G : zG} {x tb ev : Nat} {A : Nat → Nat} {σ : zS} {m0 : Nat} (hC : zCl B x tb ev A σ [] 0 m0 G) {k9 a9 b9 : Nat} (hI : zIv 0 σ []) (h1 : 1 ≤ k9) (hk : k9 < 41) (h0 : σ 0 k9 ≠ 0) (ha : a9 < 5000) (hb : b9 < 6000) (hm : a9 % 4 = 3) (hm5 : b9 % 5 = 0) (ht : σ 21 0 = -1) : zxMet D l yL_isTerminal wsL_isTerminal ({ frames := 12, cells := 20, slots := 120, locals := 340 } : Room) [.ref x, .int (nI k9), .int (nI a9), .int (nI b9)] G (fun v G9 => v = some (.int 1) ∧ zLq B x σ m0 G9) (fun _ => False) := by
  refine zxMet_of (cc := cL_isTerminal) (maxL := 10) (ret := (some .boolean)) (by decide) rfl (Nat.le_of_ble_eq_true rfl) ?_
  intro p e s m args below meth c C hnx h8
  have hW := hI.wf
  have hTH : zE1 (σ 21 0 = -1) = 1 := zE1_1 ht
  have K18 : zV p l e ({ frames := 12, cells := 20, slots := 120, locals := 340 } : Room) s m args below meth c D (zA G s.heap.size) 0 0 (zxZ below D G (fun v G9 => v = some (.int 1) ∧ zLq B x σ m0 G9) (fun _ => False) args s ({ frames := 12, cells := 20, slots := 120, locals := 340 } : Room)) G 18 [some (.ref x), some (.int (nI k9)), some (.int (nI a9)), some (.int (nI b9)), none, none, none, none, none, none] [.int (zb (¬ zNot σ k9))] := by
    refine zz_istore (pc := 18) C dL_isTerminal_18 (Nat.le_of_ble_eq_true rfl) ?_
    refine zV.less (L' := [some (.ref (x)), some (.int (nI k9)), some (.int (nI a9)), some (.int (nI b9)), some (.int (zb (¬ zNot σ k9))), none, none, none, none, none]) ⟨rfl, rfl, rfl, rfl, rfl, trivial⟩ ?_
    refine zz_aload_n (pc := 20) C dL_isTerminal_20 rfl ?_
    refine zz_callV (pc := 21) C (c_X2_terminalSession l D hC) gL_isTerminal_X2_terminalSession rfl 0 (by decide +kernel) ⟨Nat.le_of_ble_eq_true rfl, Nat.le_of_ble_eq_true rfl⟩ hC.x (ci := 2) rfl rfl rfl dL_isTerminal_21 rfl (Nat.le_of_ble_eq_true rfl) rfl ⟨Nat.le_of_ble_eq_true rfl, Nat.le_of_ble_eq_true rfl⟩ ?_
    rintro v G9 ⟨rfl, rfl⟩
    refine zz_istore (pc := 24) C dL_isTerminal_24 (Nat.le_of_ble_eq_true rfl) ?_
    refine zV.less (L' := [some (.ref (x)), some (.int (nI k9)), some (.int (nI a9)), some (.int (nI b9)), some (.int (zb (¬ zNot σ k9))), some (.int (σ 21 0)), none, none, none, none]) ⟨rfl, rfl, rfl, rfl, rfl, rfl, trivial⟩ ?_
    refine zz_aload_n (pc := 26) C dL_isTerminal_26 rfl ?_
    refine zz_callV (pc := 27) C (c_X2_foreground l D hC) gL_isTerminal_X2_foreground rfl 0 (by decide +kernel) ⟨Nat.le_of_ble_eq_true rfl, Nat.le_of_ble_eq_true rfl⟩ hC.x (ci := 2) rfl rfl rfl dL_isTerminal_27 rfl (Nat.le_of_ble_eq_true rfl) rfl ⟨Nat.le_of_ble_eq_true rfl, Nat.le_of_ble_eq_true rfl⟩ ?_
    rintro v G9 ⟨rfl, rfl⟩
    refine zz_istore (pc := 30) C dL_isTerminal_30 (Nat.le_of_ble_eq_true rfl) ?_
    refine zV.less (L' := [some (.ref (x)), some (.int (nI k9)), some (.int (nI a9)), some (.int (nI b9)), some (.int (zb (¬ zNot σ k9))), some (.int (σ 21 0)), some (.int (σ 22 0)), none, none, none]) ⟨rfl, rfl, rfl, rfl, rfl, rfl, rfl, trivial⟩ ?_
    refine zz_iload_n (pc := 32) C dL_isTerminal_32 rfl ?_
    refine zz_iconst (pc := 33) C (v := 4) (by decide) dL_isTerminal_33 ?_
    refine zz_irem (pc := 34) C (a := a9) (d := 4) dL_isTerminal_34 rfl rfl (by omega) (by decide) (by decide) ?_
    refine zz_iconst (pc := 35) C (v := 2) (by decide) dL_isTerminal_35 ?_
    refine zz_icmp_ge (pc := 36) C (tgt := 126) dL_isTerminal_36 (by decide) (fun hc36 => ?_) (fun hc36 => ?_)
    · refine zz_iload_n (pc := 126) C dL_isTerminal_126 rfl ?_
      refine zz_iconst (pc := 127) C (v := 4) (by decide) dL_isTerminal_127 ?_
      refine zz_irem (pc := 128) C (a := a9) (d := 4) dL_isTerminal_128 rfl rfl (by omega) (by decide) (by decide) ?_
      refine zz_iconst (pc := 129) C (v := 2) (by decide) dL_isTerminal_129 ?_
      refine zz_icmp_ne (pc := 130) C (tgt := 290) dL_isTerminal_130 (by decide) (fun hc130 => ?_) (fun hc130 => ?_)
      · refine zz_iload_n (pc := 290) C dL_isTerminal_290 rfl ?_
        refine zz_iconst (pc := 291) C (v := 5) (by decide) dL_isTerminal_291 ?_
        refine zz_irem (pc := 292) C (a := b9) (d := 5) dL_isTerminal_292 rfl rfl (by omega) (by decide) (by decide) ?_
        refine zz_if_ne (pc := 293) C (tgt := 330) dL_isTerminal_293 (by decide) (fun hc293 => ?_) (fun hc293 => ?_)
        · exact absurd (by rw [hm5]; rfl) hc293
        · refine zz_aload_n (pc := 296) C dL_isTerminal_296 rfl ?_
          refine zzx_callSW (pc := 297) C h8 ((c_L_hangs l hl D (X := (zFreeT σ, [(0, pn (σ 21 0))])) (N := 0) hC hW rfl (fun z => absurd (hTH.symm.trans z) (by decide))).imp (fun _ _ z => z.elim (fun y => absurd (hTH.symm.trans y.1) (by decide)) (fun z => z)) (fun _ z => z)) gL_isTerminal_L_hangs rfl 1 (by decide +kernel) ⟨Nat.le_of_ble_eq_true rfl, Nat.le_of_ble_eq_true rfl⟩ rfl dL_isTerminal_297 rfl (Nat.le_of_ble_eq_true rfl) rfl (zRx_l (by decide)) (fun E hE => hE.elim) ?_
          rintro v G9 ⟨_, rfl, rfl⟩
          refine zV.widen (k := 5) (n := 60) (zRx_l5 (by decide)).1 (zRx_l5 (by decide)).2 ?_
          refine zz_iload (pc := 300) C dL_isTerminal_300 rfl ?_
          refine zz_iconst (pc := 302) C (v := -1) (by decide) dL_isTerminal_302 ?_
          refine zz_icmp_ne (pc := 303) C (tgt := 311) dL_isTerminal_303 (by decide) (fun hc303 => ?_) (fun hc303 => ?_)
          · exact False.elim (hc303 ht)
          · refine zz_bipush (pc := 306) C (v := -10) (by decide) dL_isTerminal_306 ?_
            refine zz_goto (pc := 308) C (tgt := 313) dL_isTerminal_308 (by decide) ?_
            refine zz_icmp_ne (pc := 313) C (tgt := 328) dL_isTerminal_313 (by decide) (fun hc313 => ?_) (fun hc313 => ?_)
            · exact absurd rfl hc313
            · refine zz_aload_n (pc := 316) C dL_isTerminal_316 rfl ?_
              refine zz_callV (pc := 317) C (c_X2_terminalSession l D hC) gL_isTerminal_X2_terminalSession rfl 0 (by decide +kernel) ⟨Nat.le_of_ble_eq_true rfl, Nat.le_of_ble_eq_true rfl⟩ hC.x (ci := 2) rfl rfl rfl dL_isTerminal_317 rfl (Nat.le_of_ble_eq_true rfl) rfl ⟨Nat.le_of_ble_eq_true rfl, Nat.le_of_ble_eq_true rfl⟩ ?_
              rintro v G9 ⟨rfl, rfl⟩
              refine zz_iconst (pc := 320) C (v := -1) (by decide) dL_isTerminal_320 ?_
              refine zz_icmp_ne (pc := 321) C (tgt := 328) dL_isTerminal_321 (by decide) (fun hc321 => ?_) (fun hc321 => ?_)
              · exact absurd ht hc321
              · refine zz_iconst (pc := 324) C (v := 1) (by decide) dL_isTerminal_324 ?_
                refine zz_goto (pc := 325) C (tgt := 329) dL_isTerminal_325 (by decide) ?_
                exact zzx_ret (zz_ireturn (pc := 329) C dL_isTerminal_329 (by first | rfl | exact zb_nar) (Nat.le_of_ble_eq_true rfl) (Nat.le_of_ble_eq_true rfl) ⟨rfl, ⟨tb, ev, A, hC⟩⟩)
      · exact absurd (zM4 (n := 2) (Nat.mod_lt _ (by decide)) (by decide) (Classical.not_not.mp hc130)) (by omega)
    · exact absurd (zM4le (by omega) (Nat.mod_lt _ (by decide))) hc36
  refine zz_iload_n (pc := 0) C dL_isTerminal_0 rfl ?_
  refine zz_iconst (pc := 1) C (v := 1) (by decide) dL_isTerminal_1 ?_
  refine zz_icmp_le (pc := 2) C (tgt := 17) dL_isTerminal_2 (by decide) (fun hc2 => ?_) (fun hc2 => ?_)
  · refine zz_iconst (pc := 17) C (v := 0) (by decide) dL_isTerminal_17 ?_
    exact zV.less (L' := [some (.ref x), some (.int (nI k9)), some (.int (nI a9)), some (.int (nI b9)), none, none, none, none, none, none]) ⟨rfl, rfl, rfl, rfl, trivial⟩ (zV.topK K18 ((zb_f (fun z => z (Or.inl (zLe1 h1 hk hc2)))).symm))
  · refine zz_aload_n (pc := 5) C dL_isTerminal_5 rfl ?_
    refine zz_iload_n (pc := 6) C dL_isTerminal_6 rfl ?_
    refine zz_callV (pc := 7) C (q_state l D hC h1 hk h0) gL_isTerminal_X2_state rfl 1 (by decide +kernel) ⟨Nat.le_of_ble_eq_true rfl, Nat.le_of_ble_eq_true rfl⟩ hC.x (ci := 2) rfl rfl rfl dL_isTerminal_7 rfl (Nat.le_of_ble_eq_true rfl) rfl ⟨Nat.le_of_ble_eq_true rfl, Nat.le_of_ble_eq_true rfl⟩ ?_
    rintro v G9 ⟨rfl, rfl⟩
    refine zz_if_ne (pc := 10) C (tgt := 17) dL_isTerminal_10 (by decide) (fun hc10 => ?_) (fun hc10 => ?_)
    · refine zz_iconst (pc := 17) C (v := 0) (by decide) dL_isTerminal_17 ?_
      exact zV.less (L' := [some (.ref x), some (.int (nI k9)), some (.int (nI a9)), some (.int (nI b9)), none, none, none, none, none, none]) ⟨rfl, rfl, rfl, rfl, trivial⟩ (zV.topK K18 ((zb_f (fun z => z (Or.inr (fun y => hc10 (zCon_0.mpr y))))).symm))
    · refine zz_iconst (pc := 13) C (v := 1) (by decide) dL_isTerminal_13 ?_
      refine zz_goto (pc := 14) C (tgt := 18) dL_isTerminal_14 (by decide) ?_
      exact zV.less (L' := [some (.ref x), some (.int (nI k9)), some (.int (nI a9)), some (.int (nI b9)), none, none, none, none, none, none]) ⟨rfl, rfl, rfl, rfl, trivial⟩ (zV.topK K18 ((zb_t (show ¬ zNot σ k9 from fun z => z.elim (fun y => hc2 (by rw [y]; decide)) (fun y => y (zCon_0.mp (Classical.not_not.mp hc10))))).symm))
set_option maxHeartbeats 4000000 in
set_option maxRecDepth 100000 in
theorem c_L_isTerminal_ty (l : Launch) (hl : l.stackTraces = false) (D : va_G) {B G : zG} {x tb ev : Nat} {A : Nat → Nat} {σ : zS} {m0 : Nat} (hC : zCl B x tb ev A σ [] 0 m0 G) {k9 a9 b9 : Nat} {f9 s9 : Int32} {X : zS × List zEv} (hI : zIv 0 σ []) (h1 : 1 ≤ k9) (hk : k9 < 41) (h0 : σ 0 k9 ≠ 0) (ha : a9 < 5000) (hb : b9 < 6000) (hm : a9 % 4 = 3) (hm5 : b9 % 5 ≠ 0) (ht : σ 21 0 ≠ -1) (hf9 : f9 = if nI (b9 % 2) = 0 then (1 : Int32) else 0) (hsg : (f9 = 0 ∧ s9 = 1) ∨ (¬ f9 = 0 ∧ s9 = 6)) (hX : X = (σ, zSends σ (σ 22 0) (pn s9) 41)) (hr : zReady 8300 X) : zxMet D l yL_isTerminal wsL_isTerminal (zRmX 12 340 m0 (zCount 8300 X.1 X.2) 20) [.ref x, .int (nI k9), .int (nI a9), .int (nI b9)] G (fun v G9 => v = some (.int 1) ∧ zLq B x (zFin 8300 X) (max m0 (zCount 8300 X.1 X.2)) G9) (fun _ => False) := by
  refine zxMet_of (cc := cL_isTerminal) (maxL := 10) (ret := (some .boolean)) (by decide) rfl (Nat.le_of_ble_eq_true rfl) ?_
  intro p e s m args below meth c C hnx h8
  have hW := hI.wf
  have hTH : zE1 (σ 21 0 = -1) = 0 := zE1_0 ht
  have hrc := zRx_r (m := m0) (T := zCount 8300 X.1 X.2) (f := 12) (l := 340)
  have K360 : zV p l e (zRmX 12 340 m0 (zCount 8300 X.1 X.2) 20) s m args below meth c D (zA G s.heap.size) 0 0 (zxZ below D G (fun v G9 => v = some (.int 1) ∧ zLq B x (zFin 8300 X) (max m0 (zCount 8300 X.1 X.2)) G9) (fun _ => False) args s (zRmX 12 340 m0 (zCount 8300 X.1 X.2) 20)) G 360 [some (.ref x), some (.int (nI k9)), some (.int (nI a9)), some (.int (nI b9)), some (.int (zb (¬ zNot σ k9))), some (.int (σ 21 0)), some (.int (σ 22 0)), some (.int (nI (zMemL σ (σ 22 0) 41).length)), none, none] [.int f9, .ref x] := by
    refine zzx_callSW (pc := 360) C h8 ((c_L_types l hl D (f9 := f9) (s9 := s9) (X := X) (N := 8300) hC hsg hX (fun _ => hr)).imp (fun _ _ z => z.elim id (fun z => absurd (hTH.symm.trans z.1) (by decide))) (fun _ z => z)) gL_isTerminal_L_types rfl 2 (by decide +kernel) ⟨Nat.le_of_ble_eq_true rfl, Nat.le_of_ble_eq_true rfl⟩ rfl dL_isTerminal_360 rfl (Nat.le_of_ble_eq_true rfl) rfl (zRx_c (k := 1) (by decide)) (fun E hE => hE.elim) ?_
    rintro v G9 ⟨_, rfl, hC1⟩
    refine zV.widen (k := 5 + zW m0 (zCount 8300 X.1 X.2)) (n := 60 + 4 * zW m0 (zCount 8300 X.1 X.2)) (zRx_w5 (k := 1) (by decide)).1 (zRx_w5 (k := 1) (by decide)).2 ?_
    refine zz_iload (pc := 363) C dL_isTerminal_363 rfl ?_
    refine zz_iconst (pc := 365) C (v := -1) (by decide) dL_isTerminal_365 ?_
    refine zz_icmp_ne (pc := 366) C (tgt := 374) dL_isTerminal_366 (by decide) (fun hc366 => ?_) (fun hc366 => ?_)
    · refine zz_iload (pc := 374) C dL_isTerminal_374 rfl ?_
      refine zz_icmp_ne (pc := 376) C (tgt := 383) dL_isTerminal_376 (by decide) (fun hc376 => ?_) (fun hc376 => ?_)
      · exact absurd rfl hc376
      · refine zz_iconst (pc := 379) C (v := 1) (by decide) dL_isTerminal_379 ?_
        refine zz_goto (pc := 380) C (tgt := 384) dL_isTerminal_380 (by decide) ?_
        exact zzx_ret (zz_ireturn (pc := 384) C dL_isTerminal_384 (by first | rfl | exact zb_nar) hrc.1 hrc.2 ⟨rfl, ⟨tb, ev, A, hC1⟩⟩)
    · exact False.elim (ht (Classical.not_not.mp hc366))
  have K18 : zV p l e (zRmX 12 340 m0 (zCount 8300 X.1 X.2) 20) s m args below meth c D (zA G s.heap.size) 0 0 (zxZ below D G (fun v G9 => v = some (.int 1) ∧ zLq B x (zFin 8300 X) (max m0 (zCount 8300 X.1 X.2)) G9) (fun _ => False) args s (zRmX 12 340 m0 (zCount 8300 X.1 X.2) 20)) G 18 [some (.ref x), some (.int (nI k9)), some (.int (nI a9)), some (.int (nI b9)), none, none, none, none, none, none] [.int (zb (¬ zNot σ k9))] := by
    refine zz_istore (pc := 18) C dL_isTerminal_18 (Nat.le_of_ble_eq_true rfl) ?_
    refine zV.less (L' := [some (.ref (x)), some (.int (nI k9)), some (.int (nI a9)), some (.int (nI b9)), some (.int (zb (¬ zNot σ k9))), none, none, none, none, none]) ⟨rfl, rfl, rfl, rfl, rfl, trivial⟩ ?_
    refine zz_aload_n (pc := 20) C dL_isTerminal_20 rfl ?_
    refine zz_callV (pc := 21) C (c_X2_terminalSession l D hC) gL_isTerminal_X2_terminalSession rfl 0 (by decide +kernel) ⟨Nat.le_of_ble_eq_true rfl, Nat.le_of_ble_eq_true rfl⟩ hC.x (ci := 2) rfl rfl rfl dL_isTerminal_21 rfl (Nat.le_of_ble_eq_true rfl) rfl (zRx_0 (Nat.le_of_ble_eq_true rfl) (Nat.le_of_ble_eq_true rfl)) ?_
    rintro v G9 ⟨rfl, rfl⟩
    refine zz_istore (pc := 24) C dL_isTerminal_24 (Nat.le_of_ble_eq_true rfl) ?_
    refine zV.less (L' := [some (.ref (x)), some (.int (nI k9)), some (.int (nI a9)), some (.int (nI b9)), some (.int (zb (¬ zNot σ k9))), some (.int (σ 21 0)), none, none, none, none]) ⟨rfl, rfl, rfl, rfl, rfl, rfl, trivial⟩ ?_
    refine zz_aload_n (pc := 26) C dL_isTerminal_26 rfl ?_
    refine zz_callV (pc := 27) C (c_X2_foreground l D hC) gL_isTerminal_X2_foreground rfl 0 (by decide +kernel) ⟨Nat.le_of_ble_eq_true rfl, Nat.le_of_ble_eq_true rfl⟩ hC.x (ci := 2) rfl rfl rfl dL_isTerminal_27 rfl (Nat.le_of_ble_eq_true rfl) rfl (zRx_0 (Nat.le_of_ble_eq_true rfl) (Nat.le_of_ble_eq_true rfl)) ?_
    rintro v G9 ⟨rfl, rfl⟩
    refine zz_istore (pc := 30) C dL_isTerminal_30 (Nat.le_of_ble_eq_true rfl) ?_
    refine zV.less (L' := [some (.ref (x)), some (.int (nI k9)), some (.int (nI a9)), some (.int (nI b9)), some (.int (zb (¬ zNot σ k9))), some (.int (σ 21 0)), some (.int (σ 22 0)), none, none, none]) ⟨rfl, rfl, rfl, rfl, rfl, rfl, rfl, trivial⟩ ?_
    refine zz_iload_n (pc := 32) C dL_isTerminal_32 rfl ?_
    refine zz_iconst (pc := 33) C (v := 4) (by decide) dL_isTerminal_33 ?_
    refine zz_irem (pc := 34) C (a := a9) (d := 4) dL_isTerminal_34 rfl rfl (by omega) (by decide) (by decide) ?_
    refine zz_iconst (pc := 35) C (v := 2) (by decide) dL_isTerminal_35 ?_
    refine zz_icmp_ge (pc := 36) C (tgt := 126) dL_isTerminal_36 (by decide) (fun hc36 => ?_) (fun hc36 => ?_)
    · refine zz_iload_n (pc := 126) C dL_isTerminal_126 rfl ?_
      refine zz_iconst (pc := 127) C (v := 4) (by decide) dL_isTerminal_127 ?_
      refine zz_irem (pc := 128) C (a := a9) (d := 4) dL_isTerminal_128 rfl rfl (by omega) (by decide) (by decide) ?_
      refine zz_iconst (pc := 129) C (v := 2) (by decide) dL_isTerminal_129 ?_
      refine zz_icmp_ne (pc := 130) C (tgt := 290) dL_isTerminal_130 (by decide) (fun hc130 => ?_) (fun hc130 => ?_)
      · refine zz_iload_n (pc := 290) C dL_isTerminal_290 rfl ?_
        refine zz_iconst (pc := 291) C (v := 5) (by decide) dL_isTerminal_291 ?_
        refine zz_irem (pc := 292) C (a := b9) (d := 5) dL_isTerminal_292 rfl rfl (by omega) (by decide) (by decide) ?_
        refine zz_if_ne (pc := 293) C (tgt := 330) dL_isTerminal_293 (by decide) (fun hc293 => ?_) (fun hc293 => ?_)
        · refine zz_iload (pc := 330) C dL_isTerminal_330 rfl ?_
          refine zz_iconst (pc := 332) C (v := -1) (by decide) dL_isTerminal_332 ?_
          refine zz_icmp_ne (pc := 333) C (tgt := 340) dL_isTerminal_333 (by decide) (fun hc333 => ?_) (fun hc333 => ?_)
          · refine zz_aload_n (pc := 340) C dL_isTerminal_340 rfl ?_
            refine zz_iload (pc := 341) C dL_isTerminal_341 rfl ?_
            refine zz_callS (pc := 343) C (c_L_members l D hC hW) gL_isTerminal_L_members rfl 2 (by decide +kernel) ⟨Nat.le_of_ble_eq_true rfl, Nat.le_of_ble_eq_true rfl⟩ rfl dL_isTerminal_343 rfl (Nat.le_of_ble_eq_true rfl) rfl (zRx_0 (Nat.le_of_ble_eq_true rfl) (Nat.le_of_ble_eq_true rfl)) ?_
            rintro v G9 ⟨rfl, rfl⟩
            refine zz_istore (pc := 346) C dL_isTerminal_346 (Nat.le_of_ble_eq_true rfl) ?_
            refine zV.less (L' := [some (.ref (x)), some (.int (nI k9)), some (.int (nI a9)), some (.int (nI b9)), some (.int (zb (¬ zNot σ k9))), some (.int (σ 21 0)), some (.int (σ 22 0)), some (.int (nI (zMemL σ (σ 22 0) 41).length)), none, none]) ⟨rfl, rfl, rfl, rfl, rfl, rfl, rfl, rfl, trivial⟩ ?_
            refine zz_aload_n (pc := 348) C dL_isTerminal_348 rfl ?_
            refine zz_iload_n (pc := 349) C dL_isTerminal_349 rfl ?_
            refine zz_iconst (pc := 350) C (v := 2) (by decide) dL_isTerminal_350 ?_
            refine zz_irem (pc := 351) C (a := b9) (d := 2) dL_isTerminal_351 rfl rfl (by omega) (by decide) (by decide) ?_
            refine zz_if_ne (pc := 352) C (tgt := 359) dL_isTerminal_352 (by decide) (fun hc352 => ?_) (fun hc352 => ?_)
            · refine zz_iconst (pc := 359) C (v := 0) (by decide) dL_isTerminal_359 ?_
              exact zV.less (L' := [some (.ref x), some (.int (nI k9)), some (.int (nI a9)), some (.int (nI b9)), some (.int (zb (¬ zNot σ k9))), some (.int (σ 21 0)), some (.int (σ 22 0)), some (.int (nI (zMemL σ (σ 22 0) 41).length)), none, none]) ⟨rfl, rfl, rfl, rfl, rfl, rfl, rfl, rfl, trivial⟩ (zV.topK K360 (by rw [hf9, if_neg hc352]))
            · refine zz_iconst (pc := 355) C (v := 1) (by decide) dL_isTerminal_355 ?_
              refine zz_goto (pc := 356) C (tgt := 360) dL_isTerminal_356 (by decide) ?_
              exact zV.less (L' := [some (.ref x), some (.int (nI k9)), some (.int (nI a9)), some (.int (nI b9)), some (.int (zb (¬ zNot σ k9))), some (.int (σ 21 0)), some (.int (σ 22 0)), some (.int (nI (zMemL σ (σ 22 0) 41).length)), none, none]) ⟨rfl, rfl, rfl, rfl, rfl, rfl, rfl, rfl, trivial⟩ (zV.topK K360 (by rw [hf9, if_pos (Classical.not_not.mp hc352)]))
          · exact False.elim (ht (Classical.not_not.mp hc333))
        · exact absurd ((nI_eq (a := b9 % 5) (b := 0) (by omega) (by decide)).mp (Classical.not_not.mp hc293)) hm5
      · exact absurd (zM4 (n := 2) (Nat.mod_lt _ (by decide)) (by decide) (Classical.not_not.mp hc130)) (by omega)
    · exact absurd (zM4le (by omega) (Nat.mod_lt _ (by decide))) hc36
  refine zz_iload_n (pc := 0) C dL_isTerminal_0 rfl ?_
  refine zz_iconst (pc := 1) C (v := 1) (by decide) dL_isTerminal_1 ?_
  refine zz_icmp_le (pc := 2) C (tgt := 17) dL_isTerminal_2 (by decide) (fun hc2 => ?_) (fun hc2 => ?_)
  · refine zz_iconst (pc := 17) C (v := 0) (by decide) dL_isTerminal_17 ?_
    exact zV.less (L' := [some (.ref x), some (.int (nI k9)), some (.int (nI a9)), some (.int (nI b9)), none, none, none, none, none, none]) ⟨rfl, rfl, rfl, rfl, trivial⟩ (zV.topK K18 ((zb_f (fun z => z (Or.inl (zLe1 h1 hk hc2)))).symm))
  · refine zz_aload_n (pc := 5) C dL_isTerminal_5 rfl ?_
    refine zz_iload_n (pc := 6) C dL_isTerminal_6 rfl ?_
    refine zz_callV (pc := 7) C (q_state l D hC h1 hk h0) gL_isTerminal_X2_state rfl 1 (by decide +kernel) ⟨Nat.le_of_ble_eq_true rfl, Nat.le_of_ble_eq_true rfl⟩ hC.x (ci := 2) rfl rfl rfl dL_isTerminal_7 rfl (Nat.le_of_ble_eq_true rfl) rfl (zRx_0 (Nat.le_of_ble_eq_true rfl) (Nat.le_of_ble_eq_true rfl)) ?_
    rintro v G9 ⟨rfl, rfl⟩
    refine zz_if_ne (pc := 10) C (tgt := 17) dL_isTerminal_10 (by decide) (fun hc10 => ?_) (fun hc10 => ?_)
    · refine zz_iconst (pc := 17) C (v := 0) (by decide) dL_isTerminal_17 ?_
      exact zV.less (L' := [some (.ref x), some (.int (nI k9)), some (.int (nI a9)), some (.int (nI b9)), none, none, none, none, none, none]) ⟨rfl, rfl, rfl, rfl, trivial⟩ (zV.topK K18 ((zb_f (fun z => z (Or.inr (fun y => hc10 (zCon_0.mpr y))))).symm))
    · refine zz_iconst (pc := 13) C (v := 1) (by decide) dL_isTerminal_13 ?_
      refine zz_goto (pc := 14) C (tgt := 18) dL_isTerminal_14 (by decide) ?_
      exact zV.less (L' := [some (.ref x), some (.int (nI k9)), some (.int (nI a9)), some (.int (nI b9)), none, none, none, none, none, none]) ⟨rfl, rfl, rfl, rfl, trivial⟩ (zV.topK K18 ((zb_t (show ¬ zNot σ k9 from fun z => z.elim (fun y => hc2 (by rw [y]; decide)) (fun y => y (zCon_0.mp (Classical.not_not.mp hc10))))).symm))
set_option maxHeartbeats 4000000 in
set_option maxRecDepth 100000 in
theorem c_L_isTerminal_tn (l : Launch) (hl : l.stackTraces = false) (D : va_G) {B G : zG} {x tb ev : Nat} {A : Nat → Nat} {σ : zS} {m0 : Nat} (hC : zCl B x tb ev A σ [] 0 m0 G) {k9 a9 b9 : Nat} {f9 s9 : Int32} (hI : zIv 0 σ []) (h1 : 1 ≤ k9) (hk : k9 < 41) (h0 : σ 0 k9 ≠ 0) (ha : a9 < 5000) (hb : b9 < 6000) (hm : a9 % 4 = 3) (hm5 : b9 % 5 ≠ 0) (ht : σ 21 0 = -1) (hf9 : f9 = if nI (b9 % 2) = 0 then (1 : Int32) else 0) (hsg : (f9 = 0 ∧ s9 = 1) ∨ (¬ f9 = 0 ∧ s9 = 6)) : zxMet D l yL_isTerminal wsL_isTerminal ({ frames := 12, cells := 20, slots := 120, locals := 340 } : Room) [.ref x, .int (nI k9), .int (nI a9), .int (nI b9)] G (fun v G9 => v = some (.int 1) ∧ zLq B x σ m0 G9) (fun _ => False) := by
  refine zxMet_of (cc := cL_isTerminal) (maxL := 10) (ret := (some .boolean)) (by decide) rfl (Nat.le_of_ble_eq_true rfl) ?_
  intro p e s m args below meth c C hnx h8
  have hW := hI.wf
  have hTH : zE1 (σ 21 0 = -1) = 1 := zE1_1 ht
  have K360 : zV p l e ({ frames := 12, cells := 20, slots := 120, locals := 340 } : Room) s m args below meth c D (zA G s.heap.size) 0 0 (zxZ below D G (fun v G9 => v = some (.int 1) ∧ zLq B x σ m0 G9) (fun _ => False) args s ({ frames := 12, cells := 20, slots := 120, locals := 340 } : Room)) G 360 [some (.ref x), some (.int (nI k9)), some (.int (nI a9)), some (.int (nI b9)), some (.int (zb (¬ zNot σ k9))), some (.int (σ 21 0)), some (.int (σ 22 0)), some (.int (0)), none, none] [.int f9, .ref x] := by
    refine zzx_callSW (pc := 360) C h8 ((c_L_types l hl D (f9 := f9) (s9 := s9) (X := (σ, zSends σ (σ 22 0) (pn s9) 41)) (N := 0) hC hsg rfl (fun z => absurd (hTH.symm.trans z) (by decide))).imp (fun _ _ z => z.elim (fun y => absurd (hTH.symm.trans y.1) (by decide)) (fun z => z)) (fun _ z => z)) gL_isTerminal_L_types rfl 2 (by decide +kernel) ⟨Nat.le_of_ble_eq_true rfl, Nat.le_of_ble_eq_true rfl⟩ rfl dL_isTerminal_360 rfl (Nat.le_of_ble_eq_true rfl) rfl (zRx_l (by decide)) (fun E hE => hE.elim) ?_
    rintro v G9 ⟨_, rfl, rfl⟩
    refine zV.widen (k := 5) (n := 60) (zRx_l5 (by decide)).1 (zRx_l5 (by decide)).2 ?_
    refine zz_iload (pc := 363) C dL_isTerminal_363 rfl ?_
    refine zz_iconst (pc := 365) C (v := -1) (by decide) dL_isTerminal_365 ?_
    refine zz_icmp_ne (pc := 366) C (tgt := 374) dL_isTerminal_366 (by decide) (fun hc366 => ?_) (fun hc366 => ?_)
    · exact False.elim (hc366 ht)
    · refine zz_bipush (pc := 369) C (v := -10) (by decide) dL_isTerminal_369 ?_
      refine zz_goto (pc := 371) C (tgt := 376) dL_isTerminal_371 (by decide) ?_
      refine zz_icmp_ne (pc := 376) C (tgt := 383) dL_isTerminal_376 (by decide) (fun hc376 => ?_) (fun hc376 => ?_)
      · exact absurd rfl hc376
      · refine zz_iconst (pc := 379) C (v := 1) (by decide) dL_isTerminal_379 ?_
        refine zz_goto (pc := 380) C (tgt := 384) dL_isTerminal_380 (by decide) ?_
        exact zzx_ret (zz_ireturn (pc := 384) C dL_isTerminal_384 (by first | rfl | exact zb_nar) (Nat.le_of_ble_eq_true rfl) (Nat.le_of_ble_eq_true rfl) ⟨rfl, ⟨tb, ev, A, hC⟩⟩)
  have K18 : zV p l e ({ frames := 12, cells := 20, slots := 120, locals := 340 } : Room) s m args below meth c D (zA G s.heap.size) 0 0 (zxZ below D G (fun v G9 => v = some (.int 1) ∧ zLq B x σ m0 G9) (fun _ => False) args s ({ frames := 12, cells := 20, slots := 120, locals := 340 } : Room)) G 18 [some (.ref x), some (.int (nI k9)), some (.int (nI a9)), some (.int (nI b9)), none, none, none, none, none, none] [.int (zb (¬ zNot σ k9))] := by
    refine zz_istore (pc := 18) C dL_isTerminal_18 (Nat.le_of_ble_eq_true rfl) ?_
    refine zV.less (L' := [some (.ref (x)), some (.int (nI k9)), some (.int (nI a9)), some (.int (nI b9)), some (.int (zb (¬ zNot σ k9))), none, none, none, none, none]) ⟨rfl, rfl, rfl, rfl, rfl, trivial⟩ ?_
    refine zz_aload_n (pc := 20) C dL_isTerminal_20 rfl ?_
    refine zz_callV (pc := 21) C (c_X2_terminalSession l D hC) gL_isTerminal_X2_terminalSession rfl 0 (by decide +kernel) ⟨Nat.le_of_ble_eq_true rfl, Nat.le_of_ble_eq_true rfl⟩ hC.x (ci := 2) rfl rfl rfl dL_isTerminal_21 rfl (Nat.le_of_ble_eq_true rfl) rfl ⟨Nat.le_of_ble_eq_true rfl, Nat.le_of_ble_eq_true rfl⟩ ?_
    rintro v G9 ⟨rfl, rfl⟩
    refine zz_istore (pc := 24) C dL_isTerminal_24 (Nat.le_of_ble_eq_true rfl) ?_
    refine zV.less (L' := [some (.ref (x)), some (.int (nI k9)), some (.int (nI a9)), some (.int (nI b9)), some (.int (zb (¬ zNot σ k9))), some (.int (σ 21 0)), none, none, none, none]) ⟨rfl, rfl, rfl, rfl, rfl, rfl, trivial⟩ ?_
    refine zz_aload_n (pc := 26) C dL_isTerminal_26 rfl ?_
    refine zz_callV (pc := 27) C (c_X2_foreground l D hC) gL_isTerminal_X2_foreground rfl 0 (by decide +kernel) ⟨Nat.le_of_ble_eq_true rfl, Nat.le_of_ble_eq_true rfl⟩ hC.x (ci := 2) rfl rfl rfl dL_isTerminal_27 rfl (Nat.le_of_ble_eq_true rfl) rfl ⟨Nat.le_of_ble_eq_true rfl, Nat.le_of_ble_eq_true rfl⟩ ?_
    rintro v G9 ⟨rfl, rfl⟩
    refine zz_istore (pc := 30) C dL_isTerminal_30 (Nat.le_of_ble_eq_true rfl) ?_
    refine zV.less (L' := [some (.ref (x)), some (.int (nI k9)), some (.int (nI a9)), some (.int (nI b9)), some (.int (zb (¬ zNot σ k9))), some (.int (σ 21 0)), some (.int (σ 22 0)), none, none, none]) ⟨rfl, rfl, rfl, rfl, rfl, rfl, rfl, trivial⟩ ?_
    refine zz_iload_n (pc := 32) C dL_isTerminal_32 rfl ?_
    refine zz_iconst (pc := 33) C (v := 4) (by decide) dL_isTerminal_33 ?_
    refine zz_irem (pc := 34) C (a := a9) (d := 4) dL_isTerminal_34 rfl rfl (by omega) (by decide) (by decide) ?_
    refine zz_iconst (pc := 35) C (v := 2) (by decide) dL_isTerminal_35 ?_
    refine zz_icmp_ge (pc := 36) C (tgt := 126) dL_isTerminal_36 (by decide) (fun hc36 => ?_) (fun hc36 => ?_)
    · refine zz_iload_n (pc := 126) C dL_isTerminal_126 rfl ?_
      refine zz_iconst (pc := 127) C (v := 4) (by decide) dL_isTerminal_127 ?_
      refine zz_irem (pc := 128) C (a := a9) (d := 4) dL_isTerminal_128 rfl rfl (by omega) (by decide) (by decide) ?_
      refine zz_iconst (pc := 129) C (v := 2) (by decide) dL_isTerminal_129 ?_
      refine zz_icmp_ne (pc := 130) C (tgt := 290) dL_isTerminal_130 (by decide) (fun hc130 => ?_) (fun hc130 => ?_)
      · refine zz_iload_n (pc := 290) C dL_isTerminal_290 rfl ?_
        refine zz_iconst (pc := 291) C (v := 5) (by decide) dL_isTerminal_291 ?_
        refine zz_irem (pc := 292) C (a := b9) (d := 5) dL_isTerminal_292 rfl rfl (by omega) (by decide) (by decide) ?_
        refine zz_if_ne (pc := 293) C (tgt := 330) dL_isTerminal_293 (by decide) (fun hc293 => ?_) (fun hc293 => ?_)
        · refine zz_iload (pc := 330) C dL_isTerminal_330 rfl ?_
          refine zz_iconst (pc := 332) C (v := -1) (by decide) dL_isTerminal_332 ?_
          refine zz_icmp_ne (pc := 333) C (tgt := 340) dL_isTerminal_333 (by decide) (fun hc333 => ?_) (fun hc333 => ?_)
          · exact False.elim (hc333 ht)
          · refine zz_iconst (pc := 336) C (v := 0) (by decide) dL_isTerminal_336 ?_
            refine zz_goto (pc := 337) C (tgt := 346) dL_isTerminal_337 (by decide) ?_
            refine zz_istore (pc := 346) C dL_isTerminal_346 (Nat.le_of_ble_eq_true rfl) ?_
            refine zV.less (L' := [some (.ref (x)), some (.int (nI k9)), some (.int (nI a9)), some (.int (nI b9)), some (.int (zb (¬ zNot σ k9))), some (.int (σ 21 0)), some (.int (σ 22 0)), some (.int (0)), none, none]) ⟨rfl, rfl, rfl, rfl, rfl, rfl, rfl, rfl, trivial⟩ ?_
            refine zz_aload_n (pc := 348) C dL_isTerminal_348 rfl ?_
            refine zz_iload_n (pc := 349) C dL_isTerminal_349 rfl ?_
            refine zz_iconst (pc := 350) C (v := 2) (by decide) dL_isTerminal_350 ?_
            refine zz_irem (pc := 351) C (a := b9) (d := 2) dL_isTerminal_351 rfl rfl (by omega) (by decide) (by decide) ?_
            refine zz_if_ne (pc := 352) C (tgt := 359) dL_isTerminal_352 (by decide) (fun hc352 => ?_) (fun hc352 => ?_)
            · refine zz_iconst (pc := 359) C (v := 0) (by decide) dL_isTerminal_359 ?_
              exact zV.less (L' := [some (.ref x), some (.int (nI k9)), some (.int (nI a9)), some (.int (nI b9)), some (.int (zb (¬ zNot σ k9))), some (.int (σ 21 0)), some (.int (σ 22 0)), some (.int (0)), none, none]) ⟨rfl, rfl, rfl, rfl, rfl, rfl, rfl, rfl, trivial⟩ (zV.topK K360 (by rw [hf9, if_neg hc352]))
            · refine zz_iconst (pc := 355) C (v := 1) (by decide) dL_isTerminal_355 ?_
              refine zz_goto (pc := 356) C (tgt := 360) dL_isTerminal_356 (by decide) ?_
              exact zV.less (L' := [some (.ref x), some (.int (nI k9)), some (.int (nI a9)), some (.int (nI b9)), some (.int (zb (¬ zNot σ k9))), some (.int (σ 21 0)), some (.int (σ 22 0)), some (.int (0)), none, none]) ⟨rfl, rfl, rfl, rfl, rfl, rfl, rfl, rfl, trivial⟩ (zV.topK K360 (by rw [hf9, if_pos (Classical.not_not.mp hc352)]))
        · exact absurd ((nI_eq (a := b9 % 5) (b := 0) (by omega) (by decide)).mp (Classical.not_not.mp hc293)) hm5
      · exact absurd (zM4 (n := 2) (Nat.mod_lt _ (by decide)) (by decide) (Classical.not_not.mp hc130)) (by omega)
    · exact absurd (zM4le (by omega) (Nat.mod_lt _ (by decide))) hc36
  refine zz_iload_n (pc := 0) C dL_isTerminal_0 rfl ?_
  refine zz_iconst (pc := 1) C (v := 1) (by decide) dL_isTerminal_1 ?_
  refine zz_icmp_le (pc := 2) C (tgt := 17) dL_isTerminal_2 (by decide) (fun hc2 => ?_) (fun hc2 => ?_)
  · refine zz_iconst (pc := 17) C (v := 0) (by decide) dL_isTerminal_17 ?_
    exact zV.less (L' := [some (.ref x), some (.int (nI k9)), some (.int (nI a9)), some (.int (nI b9)), none, none, none, none, none, none]) ⟨rfl, rfl, rfl, rfl, trivial⟩ (zV.topK K18 ((zb_f (fun z => z (Or.inl (zLe1 h1 hk hc2)))).symm))
  · refine zz_aload_n (pc := 5) C dL_isTerminal_5 rfl ?_
    refine zz_iload_n (pc := 6) C dL_isTerminal_6 rfl ?_
    refine zz_callV (pc := 7) C (q_state l D hC h1 hk h0) gL_isTerminal_X2_state rfl 1 (by decide +kernel) ⟨Nat.le_of_ble_eq_true rfl, Nat.le_of_ble_eq_true rfl⟩ hC.x (ci := 2) rfl rfl rfl dL_isTerminal_7 rfl (Nat.le_of_ble_eq_true rfl) rfl ⟨Nat.le_of_ble_eq_true rfl, Nat.le_of_ble_eq_true rfl⟩ ?_
    rintro v G9 ⟨rfl, rfl⟩
    refine zz_if_ne (pc := 10) C (tgt := 17) dL_isTerminal_10 (by decide) (fun hc10 => ?_) (fun hc10 => ?_)
    · refine zz_iconst (pc := 17) C (v := 0) (by decide) dL_isTerminal_17 ?_
      exact zV.less (L' := [some (.ref x), some (.int (nI k9)), some (.int (nI a9)), some (.int (nI b9)), none, none, none, none, none, none]) ⟨rfl, rfl, rfl, rfl, trivial⟩ (zV.topK K18 ((zb_f (fun z => z (Or.inr (fun y => hc10 (zCon_0.mpr y))))).symm))
    · refine zz_iconst (pc := 13) C (v := 1) (by decide) dL_isTerminal_13 ?_
      refine zz_goto (pc := 14) C (tgt := 18) dL_isTerminal_14 (by decide) ?_
      exact zV.less (L' := [some (.ref x), some (.int (nI k9)), some (.int (nI a9)), some (.int (nI b9)), none, none, none, none, none, none]) ⟨rfl, rfl, rfl, rfl, trivial⟩ (zV.topK K18 ((zb_t (show ¬ zNot σ k9 from fun z => z.elim (fun y => hc2 (by rw [y]; decide)) (fun y => y (zCon_0.mp (Classical.not_not.mp hc10))))).symm))
