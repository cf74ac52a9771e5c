/-! the law's method around setGroup -/
theorem z40c {g : Nat} (h : g ≤ 40) : nI g ≤ 40 := (nI_leI (a := g) (b := 40) (by omega) (by decide)).mpr h
theorem zLt41 {g : Nat} (hg : g < 2 ^ 31) (h : ¬ (41 : Int32) ≤ nI g) : g < 41 := by
  by_cases z : g < 41
  · exact z
  · exact absurd ((nI_leI (a := 41) (b := g) (by decide) hg).mpr (by omega)) h
set_option maxHeartbeats 4000000 in
set_option maxRecDepth 100000 in
theorem c_L_isGrouped_y (l : Launch) (hl : l.stackTraces = false) (D : va_G) {B G : zG} {x tb ev : Nat} {A : Nat → Nat} {σ : zS} {m0 : Nat} (hC : zCl B x tb ev A σ [] 0 m0 G) {k9 t9 g9 : Nat} (hI : zIv 0 σ []) (h1 : 1 ≤ k9) (hk : k9 < 41) (h0 : σ 0 k9 ≠ 0) (t1 : 1 ≤ t9) (ht : t9 < 41) (t0 : σ 0 t9 ≠ 0) (g1 : 1 ≤ g9) (g40 : g9 < 41) (hb : ¬ zNot σ k9 ∧ zPoss σ k9 t9 (nI g9)) : zxMet D l yL_isGrouped wsL_isGrouped ({ frames := 12, cells := 20, slots := 120, locals := 340 } : Room) [.ref x, .int (nI k9), .int (nI t9), .int (nI g9)] G (fun v G9 => v = some (.int 1) ∧ zLq B x (zu σ 2 t9 (nI g9)) m0 G9) (fun _ => False) := by
  refine zxMet_of (cc := cL_isGrouped) (maxL := 9) (ret := (some .boolean)) (by decide) rfl (Nat.le_of_ble_eq_true rfl) ?_
  intro p e s m args below meth c C hnx h8
  have hW := hI.wf
  have hg41 : g9 < 2 ^ 31 := by omega
  have hTH : zE3 (¬ zHere σ (nI k9) ∨ ¬ zHere σ (nI t9)) (nI g9 < 1 ∨ (40 : Int32) < nI g9) (zNot σ (pn (nI k9)) ∨ ¬ zPoss σ (pn (nI k9)) (pn (nI t9)) (nI g9)) = 0 := zE3_0 (fun z => z.elim (fun y => y (zHere_n h1 hk h0)) (fun y => y (zHere_n t1 ht t0))) (zNum_n g1 g40) (by rw [pnn hk, pnn ht]; exact fun z => z.elim hb.1 (fun y => y hb.2))
  have K153 : zV p l e ({ frames := 12, cells := 20, slots := 120, locals := 340 } : Room) s m args below meth c D (zA G s.heap.size) 0 0 (zxZ below D G (fun v G9 => v = some (.int 1) ∧ zLq B x (zu σ 2 t9 (nI g9)) m0 G9) (fun _ => False) args s ({ frames := 12, cells := 20, slots := 120, locals := 340 } : Room)) G 153 [some (.ref x), some (.int (nI k9)), some (.int (nI t9)), some (.int (nI g9)), some (.int (zb (¬ zNot σ k9))), some (.int (σ 2 t9)), none, none, none] [.int (zb (¬ zNot σ k9 ∧ g9 < 41 ∧ zPoss σ k9 t9 (nI g9)))] := by
    refine zz_istore (pc := 153) C dL_isGrouped_153 (Nat.le_of_ble_eq_true rfl) ?_
    refine zV.less (L' := [some (.ref (x)), some (.int (nI k9)), some (.int (nI t9)), some (.int (nI g9)), some (.int (zb (¬ zNot σ k9))), some (.int (σ 2 t9)), none, some (.int (zb (¬ zNot σ k9 ∧ g9 < 41 ∧ zPoss σ k9 t9 (nI g9)))), none]) ⟨rfl, rfl, rfl, rfl, rfl, rfl, rfl, trivial⟩ ?_
    refine zz_aload_n (pc := 155) C dL_isGrouped_155 rfl ?_
    refine zz_iload_n (pc := 156) C dL_isGrouped_156 rfl ?_
    refine zz_iload_n (pc := 157) C dL_isGrouped_157 rfl ?_
    refine zz_iload_n (pc := 158) C dL_isGrouped_158 rfl ?_
    refine zzx_callSW (pc := 159) C h8 ((c_L_setsGroup l hl D (x9 := nI k9) (t9 := nI t9) (g9 := nI g9) hC hW).imp (fun _ _ z => z.elim id (fun z => z.elim (fun y => absurd (hTH.symm.trans y.1) (by decide)) (fun z => z.elim (fun y => absurd (hTH.symm.trans y.1) (by decide)) (fun z => absurd (hTH.symm.trans z.1) (by decide))))) (fun _ z => z)) gL_isGrouped_L_setsGroup rfl 4 (by decide +kernel) ⟨Nat.le_of_ble_eq_true rfl, Nat.le_of_ble_eq_true rfl⟩ rfl dL_isGrouped_159 rfl (Nat.le_of_ble_eq_true rfl) rfl ⟨Nat.le_of_ble_eq_true rfl, Nat.le_of_ble_eq_true rfl⟩ (fun E hE => hE.elim) ?_
    rintro v G9 ⟨_, rfl, hC1⟩
    rw [pnn ht] at hC1
    rw [pnn ht]
    refine zz_istore (pc := 162) C dL_isGrouped_162 (Nat.le_of_ble_eq_true rfl) ?_
    refine zV.less (L' := [some (.ref (x)), some (.int (nI k9)), some (.int (nI t9)), some (.int (nI g9)), some (.int (zb (¬ zNot σ k9))), some (.int (σ 2 t9)), none, some (.int (zb (¬ zNot σ k9 ∧ g9 < 41 ∧ zPoss σ k9 t9 (nI g9)))), some (.int (σ 2 t9))]) ⟨rfl, rfl, rfl, rfl, rfl, rfl, rfl, rfl, trivial⟩ ?_
    refine zz_iload (pc := 164) C dL_isGrouped_164 rfl ?_
    refine zz_iload_n (pc := 166) C dL_isGrouped_166 rfl ?_
    refine zz_bipush (pc := 167) C (v := 40) (by decide) dL_isGrouped_167 ?_
    refine zz_icmp_le (pc := 169) C (tgt := 177) dL_isGrouped_169 (by decide) (fun hc169 => ?_) (fun hc169 => ?_)
    · refine zz_iload (pc := 177) C dL_isGrouped_177 rfl ?_
      refine zz_if_eq (pc := 179) C (tgt := 187) dL_isGrouped_179 (by decide) (fun hc179 => ?_) (fun hc179 => ?_)
      · exact False.elim (zb_eq.mp hc179 ⟨hb.1, g40, hb.2⟩)
      · refine zz_iload (pc := 182) C dL_isGrouped_182 rfl ?_
        refine zz_goto (pc := 184) C (tgt := 189) dL_isGrouped_184 (by decide) ?_
        refine zz_icmp_ne (pc := 189) C (tgt := 221) dL_isGrouped_189 (by decide) (fun hc189 => ?_) (fun hc189 => ?_)
        · exact absurd rfl hc189
        · refine zz_aload_n (pc := 192) C dL_isGrouped_192 rfl ?_
          refine zz_iload_n (pc := 193) C dL_isGrouped_193 rfl ?_
          refine zz_callV (pc := 194) C (q_group l D hC1 t1 ht t0 (k := t9)) gL_isGrouped_X2_group rfl 1 (by decide +kernel) ⟨Nat.le_of_ble_eq_true rfl, Nat.le_of_ble_eq_true rfl⟩ hC1.x (ci := 2) rfl rfl rfl dL_isGrouped_194 rfl (Nat.le_of_ble_eq_true rfl) rfl ⟨Nat.le_of_ble_eq_true rfl, Nat.le_of_ble_eq_true rfl⟩ ?_
          rintro v G9 ⟨rfl, rfl⟩
          refine zz_iload_n (pc := 197) C dL_isGrouped_197 rfl ?_
          refine zz_bipush (pc := 198) C (v := 41) (by decide) dL_isGrouped_198 ?_
          refine zz_icmp_ge (pc := 200) C (tgt := 212) dL_isGrouped_200 (by decide) (fun hc200 => ?_) (fun hc200 => ?_)
          · exact absurd hc200 (z41b g40)
          · refine zz_iload (pc := 203) C dL_isGrouped_203 rfl ?_
            refine zz_if_eq (pc := 205) C (tgt := 212) dL_isGrouped_205 (by decide) (fun hc205 => ?_) (fun hc205 => ?_)
            · exact False.elim (zb_eq.mp hc205 ⟨hb.1, g40, hb.2⟩)
            · refine zz_iload_n (pc := 208) C dL_isGrouped_208 rfl ?_
              refine zz_goto (pc := 209) C (tgt := 214) dL_isGrouped_209 (by decide) ?_
              refine zz_icmp_ne (pc := 214) C (tgt := 221) dL_isGrouped_214 (by decide) (fun hc214 => ?_) (fun hc214 => ?_)
              · exact absurd zu_self hc214
              · refine zz_iconst (pc := 217) C (v := 1) (by decide) dL_isGrouped_217 ?_
                refine zz_goto (pc := 218) C (tgt := 222) dL_isGrouped_218 (by decide) ?_
                exact zzx_ret (zz_ireturn (pc := 222) C dL_isGrouped_222 (by first | rfl | exact zb_nar) (Nat.le_of_ble_eq_true rfl) (Nat.le_of_ble_eq_true rfl) ⟨rfl, ⟨tb, ev, A, hC1⟩⟩)
    · exact absurd (z40c (by omega)) hc169
  have K107 : ¬ zNot σ k9 → (t9 = k9 ∨ σ 1 t9 = nI k9) → zV p l e ({ frames := 12, cells := 20, slots := 120, locals := 340 } : Room) s m args below meth c D (zA G s.heap.size) 0 0 (zxZ below D G (fun v G9 => v = some (.int 1) ∧ zLq B x (zu σ 2 t9 (nI g9)) m0 G9) (fun _ => False) args s ({ frames := 12, cells := 20, slots := 120, locals := 340 } : Room)) G 107 [some (.ref x), some (.int (nI k9)), some (.int (nI t9)), some (.int (nI g9)), some (.int (zb (¬ zNot σ k9))), some (.int (σ 2 t9)), some (.int (zb (g9 < 41 ∧ zIsIn σ (nI g9) (σ 3 k9) 41))), none, none] [] := by
    intro hcan hpar
    refine zz_aload_n (pc := 107) C dL_isGrouped_107 rfl ?_
    refine zz_iload_n (pc := 108) C dL_isGrouped_108 rfl ?_
    refine zz_callV (pc := 109) C (q_state l D hC t1 ht t0) gL_isGrouped_X2_state rfl 1 (by decide +kernel) ⟨Nat.le_of_ble_eq_true rfl, Nat.le_of_ble_eq_true rfl⟩ hC.x (ci := 2) rfl rfl rfl dL_isGrouped_109 rfl (Nat.le_of_ble_eq_true rfl) rfl ⟨Nat.le_of_ble_eq_true rfl, Nat.le_of_ble_eq_true rfl⟩ ?_
    rintro v G9 ⟨rfl, rfl⟩
    refine zz_iconst (pc := 112) C (v := 3) (by decide) dL_isGrouped_112 ?_
    refine zz_icmp_eq (pc := 113) C (tgt := 152) dL_isGrouped_113 (by decide) (fun hc113 => ?_) (fun hc113 => ?_)
    · refine zz_iconst (pc := 152) C (v := 0) (by decide) dL_isGrouped_152 ?_
      exact zV.less (L' := [some (.ref x), some (.int (nI k9)), some (.int (nI t9)), some (.int (nI g9)), some (.int (zb (¬ zNot σ k9))), some (.int (σ 2 t9)), none, none, none]) ⟨rfl, rfl, rfl, rfl, rfl, rfl, trivial⟩ (zV.topK K153 ((zb_f (fun z => zCon_3.mp hc113 z.2.2.2.1)).symm))
    · refine zz_aload_n (pc := 116) C dL_isGrouped_116 rfl ?_
      refine zz_iload_n (pc := 117) C dL_isGrouped_117 rfl ?_
      refine zz_callV (pc := 118) C (q_session l D hC t1 ht t0) gL_isGrouped_X2_session rfl 1 (by decide +kernel) ⟨Nat.le_of_ble_eq_true rfl, Nat.le_of_ble_eq_true rfl⟩ hC.x (ci := 2) rfl rfl rfl dL_isGrouped_118 rfl (Nat.le_of_ble_eq_true rfl) rfl ⟨Nat.le_of_ble_eq_true rfl, Nat.le_of_ble_eq_true rfl⟩ ?_
      rintro v G9 ⟨rfl, rfl⟩
      refine zz_iload_n (pc := 121) C dL_isGrouped_121 rfl ?_
      refine zz_icmp_eq (pc := 122) C (tgt := 152) dL_isGrouped_122 (by decide) (fun hc122 => ?_) (fun hc122 => ?_)
      · refine zz_iconst (pc := 152) C (v := 0) (by decide) dL_isGrouped_152 ?_
        exact zV.less (L' := [some (.ref x), some (.int (nI k9)), some (.int (nI t9)), some (.int (nI g9)), some (.int (zb (¬ zNot σ k9))), some (.int (σ 2 t9)), none, none, none]) ⟨rfl, rfl, rfl, rfl, rfl, rfl, trivial⟩ (zV.topK K153 ((zb_f (fun z => z.2.2.2.2.1 hc122)).symm))
      · refine zz_aload_n (pc := 125) C dL_isGrouped_125 rfl ?_
        refine zz_iload_n (pc := 126) C dL_isGrouped_126 rfl ?_
        refine zz_callV (pc := 127) C (q_session l D hC t1 ht t0) gL_isGrouped_X2_session rfl 1 (by decide +kernel) ⟨Nat.le_of_ble_eq_true rfl, Nat.le_of_ble_eq_true rfl⟩ hC.x (ci := 2) rfl rfl rfl dL_isGrouped_127 rfl (Nat.le_of_ble_eq_true rfl) rfl ⟨Nat.le_of_ble_eq_true rfl, Nat.le_of_ble_eq_true rfl⟩ ?_
        rintro v G9 ⟨rfl, rfl⟩
        refine zz_aload_n (pc := 130) C dL_isGrouped_130 rfl ?_
        refine zz_iload_n (pc := 131) C dL_isGrouped_131 rfl ?_
        refine zz_callV (pc := 132) C (q_session l D hC h1 hk h0) gL_isGrouped_X2_session rfl 1 (by decide +kernel) ⟨Nat.le_of_ble_eq_true rfl, Nat.le_of_ble_eq_true rfl⟩ hC.x (ci := 2) rfl rfl rfl dL_isGrouped_132 rfl (Nat.le_of_ble_eq_true rfl) rfl ⟨Nat.le_of_ble_eq_true rfl, Nat.le_of_ble_eq_true rfl⟩ ?_
        rintro v G9 ⟨rfl, rfl⟩
        refine zz_icmp_ne (pc := 135) C (tgt := 152) dL_isGrouped_135 (by decide) (fun hc135 => ?_) (fun hc135 => ?_)
        · refine zz_iconst (pc := 152) C (v := 0) (by decide) dL_isGrouped_152 ?_
          exact zV.less (L' := [some (.ref x), some (.int (nI k9)), some (.int (nI t9)), some (.int (nI g9)), some (.int (zb (¬ zNot σ k9))), some (.int (σ 2 t9)), none, none, none]) ⟨rfl, rfl, rfl, rfl, rfl, rfl, trivial⟩ (zV.topK K153 ((zb_f (fun z => hc135 z.2.2.2.2.2.1)).symm))
        · refine zz_iload_n (pc := 138) C dL_isGrouped_138 rfl ?_
          refine zz_iload_n (pc := 139) C dL_isGrouped_139 rfl ?_
          refine zz_icmp_eq (pc := 140) C (tgt := 148) dL_isGrouped_140 (by decide) (fun hc140 => ?_) (fun hc140 => ?_)
          · refine zz_iconst (pc := 148) C (v := 1) (by decide) dL_isGrouped_148 ?_
            refine zz_goto (pc := 149) C (tgt := 153) dL_isGrouped_149 (by decide) ?_
            exact zV.less (L' := [some (.ref x), some (.int (nI k9)), some (.int (nI t9)), some (.int (nI g9)), some (.int (zb (¬ zNot σ k9))), some (.int (σ 2 t9)), none, none, none]) ⟨rfl, rfl, rfl, rfl, rfl, rfl, trivial⟩ (zV.topK K153 ((zb_t ⟨hcan, by have := (nI_eq (a := g9) (b := t9) hg41 (by omega)).mp hc140; omega, hpar, Classical.not_not.mp (fun y => hc113 (zCon_3.mpr y)), hc122, Classical.not_not.mp hc135, Or.inl hc140⟩).symm))
          · refine zz_iload (pc := 143) C dL_isGrouped_143 rfl ?_
            refine zz_if_eq (pc := 145) C (tgt := 152) dL_isGrouped_145 (by decide) (fun hc145 => ?_) (fun hc145 => ?_)
            · refine zz_iconst (pc := 152) C (v := 0) (by decide) dL_isGrouped_152 ?_
              exact zV.less (L' := [some (.ref x), some (.int (nI k9)), some (.int (nI t9)), some (.int (nI g9)), some (.int (zb (¬ zNot σ k9))), some (.int (σ 2 t9)), none, none, none]) ⟨rfl, rfl, rfl, rfl, rfl, rfl, trivial⟩ (zV.topK K153 ((zb_f (fun z => z.2.2.2.2.2.2.elim hc140 (fun y => zb_eq.mp hc145 ⟨z.2.1, y⟩))).symm))
            · refine zz_iconst (pc := 148) C (v := 1) (by decide) dL_isGrouped_148 ?_
              refine zz_goto (pc := 149) C (tgt := 153) dL_isGrouped_149 (by decide) ?_
              exact zV.less (L' := [some (.ref x), some (.int (nI k9)), some (.int (nI t9)), some (.int (nI g9)), some (.int (zb (¬ zNot σ k9))), some (.int (σ 2 t9)), none, none, none]) ⟨rfl, rfl, rfl, rfl, rfl, rfl, trivial⟩ (zV.topK K153 ((zb_t ⟨hcan, (zbp hc145).1, hpar, Classical.not_not.mp (fun y => hc113 (zCon_3.mpr y)), hc122, Classical.not_not.mp hc135, Or.inr (zbp hc145).2⟩).symm))
  have loop : ∀ (n i : Nat), i + n = 41 → 1 ≤ i → zV p l e ({ frames := 12, cells := 20, slots := 120, locals := 340 } : Room) s m args below meth c D (zA G s.heap.size) 0 0 (zxZ below D G (fun v G9 => v = some (.int 1) ∧ zLq B x (zu σ 2 t9 (nI g9)) m0 G9) (fun _ => False) args s ({ frames := 12, cells := 20, slots := 120, locals := 340 } : Room)) G 33 [some (.ref x), some (.int (nI k9)), some (.int (nI t9)), some (.int (nI g9)), some (.int (zb (¬ zNot σ k9))), some (.int (σ 2 t9)), some (.int (zb (g9 < 41 ∧ zIsIn σ (nI g9) (σ 3 k9) i))), some (.int (nI (i))), none] [] := by
    intro n
    induction n with
    | zero =>
      intro i hi hi1
      have hi41 : i = 41 := by omega
      subst hi41
      refine zz_iload (pc := 33) C dL_isGrouped_33 rfl ?_
      refine zz_bipush (pc := 35) C (v := 41) (by decide) dL_isGrouped_35 ?_
      refine zz_icmp_ge (pc := 37) C (tgt := 88) dL_isGrouped_37 (by decide) (fun hc37 => ?_) (fun hc37 => ?_)
      · refine zz_iload (pc := 88) C dL_isGrouped_88 rfl ?_
        refine zz_if_eq (pc := 90) C (tgt := 152) dL_isGrouped_90 (by decide) (fun hc90 => ?_) (fun hc90 => ?_)
        · refine zz_iconst (pc := 152) C (v := 0) (by decide) dL_isGrouped_152 ?_
          exact zV.less (L' := [some (.ref x), some (.int (nI k9)), some (.int (nI t9)), some (.int (nI g9)), some (.int (zb (¬ zNot σ k9))), some (.int (σ 2 t9)), none, none, none]) ⟨rfl, rfl, rfl, rfl, rfl, rfl, trivial⟩ (zV.topK K153 ((zb_f (fun z => zb_eq.mp hc90 z.1)).symm))
        · refine zz_iload_n (pc := 93) C dL_isGrouped_93 rfl ?_
          refine zz_iload_n (pc := 94) C dL_isGrouped_94 rfl ?_
          refine zz_icmp_eq (pc := 95) C (tgt := 107) dL_isGrouped_95 (by decide) (fun hc95 => ?_) (fun hc95 => ?_)
          · exact zV.less (L' := [some (.ref x), some (.int (nI k9)), some (.int (nI t9)), some (.int (nI g9)), some (.int (zb (¬ zNot σ k9))), some (.int (σ 2 t9)), some (.int (zb (g9 < 41 ∧ zIsIn σ (nI g9) (σ 3 k9) 41))), none, none]) ⟨rfl, rfl, rfl, rfl, rfl, rfl, rfl, trivial⟩ (K107 (zbp hc90) (Or.inl ((nI_eq (by omega) (by omega)).mp hc95)))
          · refine zz_aload_n (pc := 98) C dL_isGrouped_98 rfl ?_
            refine zz_iload_n (pc := 99) C dL_isGrouped_99 rfl ?_
            refine zz_callV (pc := 100) C (q_parent l D hC hW t1 ht t0) gL_isGrouped_X2_parent rfl 1 (by decide +kernel) ⟨Nat.le_of_ble_eq_true rfl, Nat.le_of_ble_eq_true rfl⟩ hC.x (ci := 2) rfl rfl rfl dL_isGrouped_100 rfl (Nat.le_of_ble_eq_true rfl) rfl ⟨Nat.le_of_ble_eq_true rfl, Nat.le_of_ble_eq_true rfl⟩ ?_
            rintro v G9 ⟨rfl, rfl⟩
            refine zz_iload_n (pc := 103) C dL_isGrouped_103 rfl ?_
            refine zz_icmp_ne (pc := 104) C (tgt := 152) dL_isGrouped_104 (by decide) (fun hc104 => ?_) (fun hc104 => ?_)
            · refine zz_iconst (pc := 152) C (v := 0) (by decide) dL_isGrouped_152 ?_
              exact zV.less (L' := [some (.ref x), some (.int (nI k9)), some (.int (nI t9)), some (.int (nI g9)), some (.int (zb (¬ zNot σ k9))), some (.int (σ 2 t9)), none, none, none]) ⟨rfl, rfl, rfl, rfl, rfl, rfl, trivial⟩ (zV.topK K153 ((zb_f (fun z => z.2.2.1.elim (fun y => hc95 (by rw [y])) hc104)).symm))
            · exact zV.less (L' := [some (.ref x), some (.int (nI k9)), some (.int (nI t9)), some (.int (nI g9)), some (.int (zb (¬ zNot σ k9))), some (.int (σ 2 t9)), some (.int (zb (g9 < 41 ∧ zIsIn σ (nI g9) (σ 3 k9) 41))), none, none]) ⟨rfl, rfl, rfl, rfl, rfl, rfl, rfl, trivial⟩ (K107 (zbp hc90) (Or.inr (Classical.not_not.mp hc104)))
      · exact absurd z41c hc37
    | succ n ih =>
      intro i hi hi1
      have K80 : zV p l e ({ frames := 12, cells := 20, slots := 120, locals := 340 } : Room) s m args below meth c D (zA G s.heap.size) 0 0 (zxZ below D G (fun v G9 => v = some (.int 1) ∧ zLq B x (zu σ 2 t9 (nI g9)) m0 G9) (fun _ => False) args s ({ frames := 12, cells := 20, slots := 120, locals := 340 } : Room)) G 80 [some (.ref x), some (.int (nI k9)), some (.int (nI t9)), some (.int (nI g9)), some (.int (zb (¬ zNot σ k9))), some (.int (σ 2 t9)), some (.int (zb (g9 < 41 ∧ zIsIn σ (nI g9) (σ 3 k9) i))), some (.int (nI (i))), none] [.int (zb (g9 < 41 ∧ zIsIn σ (nI g9) (σ 3 k9) (i + 1)))] := by
        refine zz_istore (pc := 80) C dL_isGrouped_80 (Nat.le_of_ble_eq_true rfl) ?_
        refine zV.less (L' := [some (.ref (x)), some (.int (nI k9)), some (.int (nI t9)), some (.int (nI g9)), some (.int (zb (¬ zNot σ k9))), some (.int (σ 2 t9)), some (.int (zb (g9 < 41 ∧ zIsIn σ (nI g9) (σ 3 k9) (i + 1)))), some (.int (nI (i))), none]) ⟨rfl, rfl, rfl, rfl, rfl, rfl, rfl, rfl, trivial⟩ ?_
        refine zz_iinc (pc := 82) C dL_isGrouped_82 rfl ?_
        refine zV.less (L' := [some (.ref (x)), some (.int (nI k9)), some (.int (nI t9)), some (.int (nI g9)), some (.int (zb (¬ zNot σ k9))), some (.int (σ 2 t9)), some (.int (zb (g9 < 41 ∧ zIsIn σ (nI g9) (σ 3 k9) (i + 1)))), some (.int (nI (i + 1))), none]) ⟨rfl, rfl, rfl, rfl, rfl, rfl, rfl, zvi (z1i i), trivial⟩ ?_
        refine zz_goto (pc := 85) C (tgt := 33) dL_isGrouped_85 (by decide) ?_
        exact ih (i + 1) (by omega) (by omega)
      refine zz_iload (pc := 33) C dL_isGrouped_33 rfl ?_
      refine zz_bipush (pc := 35) C (v := 41) (by decide) dL_isGrouped_35 ?_
      refine zz_icmp_ge (pc := 37) C (tgt := 88) dL_isGrouped_37 (by decide) (fun hc37 => ?_) (fun hc37 => ?_)
      · exact absurd hc37 (z41b (by omega))
      · refine zz_iload (pc := 40) C dL_isGrouped_40 rfl ?_
        refine zz_if_ne (pc := 42) C (tgt := 75) dL_isGrouped_42 (by decide) (fun hc42 => ?_) (fun hc42 => ?_)
        · refine zz_iconst (pc := 75) C (v := 1) (by decide) dL_isGrouped_75 ?_
          refine zz_goto (pc := 76) C (tgt := 80) dL_isGrouped_76 (by decide) ?_
          exact zV.less (L' := [some (.ref x), some (.int (nI k9)), some (.int (nI t9)), some (.int (nI g9)), some (.int (zb (¬ zNot σ k9))), some (.int (σ 2 t9)), some (.int (zb (g9 < 41 ∧ zIsIn σ (nI g9) (σ 3 k9) i))), some (.int (nI (i))), none]) ⟨rfl, rfl, rfl, rfl, rfl, rfl, rfl, rfl, trivial⟩ (zV.topK K80 ((zb_t ⟨(zb_ne.mp hc42).1, fun z => (zb_ne.mp hc42).2 (zAll_succ.mp z).1⟩).symm))
        · refine zz_iload_n (pc := 45) C dL_isGrouped_45 rfl ?_
          refine zz_bipush (pc := 46) C (v := 41) (by decide) dL_isGrouped_46 ?_
          refine zz_icmp_ge (pc := 48) C (tgt := 79) dL_isGrouped_48 (by decide) (fun hc48 => ?_) (fun hc48 => ?_)
          · refine zz_iconst (pc := 79) C (v := 0) (by decide) dL_isGrouped_79 ?_
            exact zV.less (L' := [some (.ref x), some (.int (nI k9)), some (.int (nI t9)), some (.int (nI g9)), some (.int (zb (¬ zNot σ k9))), some (.int (σ 2 t9)), some (.int (zb (g9 < 41 ∧ zIsIn σ (nI g9) (σ 3 k9) i))), some (.int (nI (i))), none]) ⟨rfl, rfl, rfl, rfl, rfl, rfl, rfl, rfl, trivial⟩ (zV.topK K80 ((zb_f (fun z => z41b z.1 hc48)).symm))
          · refine zz_aload_n (pc := 51) C dL_isGrouped_51 rfl ?_
            refine zz_iload (pc := 52) C dL_isGrouped_52 rfl ?_
            refine zz_iload_n (pc := 54) C dL_isGrouped_54 rfl ?_
            refine zz_callS (pc := 55) C (c_L_isMember l D hC (by omega) (by omega)) gL_isGrouped_L_isMember rfl 3 (by decide +kernel) ⟨Nat.le_of_ble_eq_true rfl, Nat.le_of_ble_eq_true rfl⟩ rfl dL_isGrouped_55 rfl (Nat.le_of_ble_eq_true rfl) rfl ⟨Nat.le_of_ble_eq_true rfl, Nat.le_of_ble_eq_true rfl⟩ ?_
            rintro v G9 ⟨rfl, rfl⟩
            refine zz_if_eq (pc := 58) C (tgt := 79) dL_isGrouped_58 (by decide) (fun hc58 => ?_) (fun hc58 => ?_)
            · refine zz_iconst (pc := 79) C (v := 0) (by decide) dL_isGrouped_79 ?_
              exact zV.less (L' := [some (.ref x), some (.int (nI k9)), some (.int (nI t9)), some (.int (nI g9)), some (.int (zb (¬ zNot σ k9))), some (.int (σ 2 t9)), some (.int (zb (g9 < 41 ∧ zIsIn σ (nI g9) (σ 3 k9) i))), some (.int (nI (i))), none]) ⟨rfl, rfl, rfl, rfl, rfl, rfl, rfl, rfl, trivial⟩ (zV.topK K80 ((zb_f (fun z => z.2 (zAll_succ.mpr ⟨Classical.not_not.mp (fun y => hc42 (zb_ne.mpr ⟨z.1, y⟩)), fun y => zb_eq.mp hc58 y.1⟩))).symm))
            · refine zz_aload_n (pc := 61) C dL_isGrouped_61 rfl ?_
              refine zz_iload (pc := 62) C dL_isGrouped_62 rfl ?_
              refine zz_callV (pc := 64) C (q_session l D hC (by omega) (by omega) (zbp hc58).1) gL_isGrouped_X2_session rfl 1 (by decide +kernel) ⟨Nat.le_of_ble_eq_true rfl, Nat.le_of_ble_eq_true rfl⟩ hC.x (ci := 2) rfl rfl rfl dL_isGrouped_64 rfl (Nat.le_of_ble_eq_true rfl) rfl ⟨Nat.le_of_ble_eq_true rfl, Nat.le_of_ble_eq_true rfl⟩ ?_
              rintro v G9 ⟨rfl, rfl⟩
              refine zz_aload_n (pc := 67) C dL_isGrouped_67 rfl ?_
              refine zz_iload_n (pc := 68) C dL_isGrouped_68 rfl ?_
              refine zz_callV (pc := 69) C (q_session l D hC h1 hk h0) gL_isGrouped_X2_session rfl 1 (by decide +kernel) ⟨Nat.le_of_ble_eq_true rfl, Nat.le_of_ble_eq_true rfl⟩ hC.x (ci := 2) rfl rfl rfl dL_isGrouped_69 rfl (Nat.le_of_ble_eq_true rfl) rfl ⟨Nat.le_of_ble_eq_true rfl, Nat.le_of_ble_eq_true rfl⟩ ?_
              rintro v G9 ⟨rfl, rfl⟩
              refine zz_icmp_ne (pc := 72) C (tgt := 79) dL_isGrouped_72 (by decide) (fun hc72 => ?_) (fun hc72 => ?_)
              · refine zz_iconst (pc := 79) C (v := 0) (by decide) dL_isGrouped_79 ?_
                exact zV.less (L' := [some (.ref x), some (.int (nI k9)), some (.int (nI t9)), some (.int (nI g9)), some (.int (zb (¬ zNot σ k9))), some (.int (σ 2 t9)), some (.int (zb (g9 < 41 ∧ zIsIn σ (nI g9) (σ 3 k9) i))), some (.int (nI (i))), none]) ⟨rfl, rfl, rfl, rfl, rfl, rfl, rfl, rfl, trivial⟩ (zV.topK K80 ((zb_f (fun z => z.2 (zAll_succ.mpr ⟨Classical.not_not.mp (fun y => hc42 (zb_ne.mpr ⟨z.1, y⟩)), fun y => hc72 y.2⟩))).symm))
              · refine zz_iconst (pc := 75) C (v := 1) (by decide) dL_isGrouped_75 ?_
                refine zz_goto (pc := 76) C (tgt := 80) dL_isGrouped_76 (by decide) ?_
                exact zV.less (L' := [some (.ref x), some (.int (nI k9)), some (.int (nI t9)), some (.int (nI g9)), some (.int (zb (¬ zNot σ k9))), some (.int (σ 2 t9)), some (.int (zb (g9 < 41 ∧ zIsIn σ (nI g9) (σ 3 k9) i))), some (.int (nI (i))), none]) ⟨rfl, rfl, rfl, rfl, rfl, rfl, rfl, rfl, trivial⟩ (zV.topK K80 ((zb_t ⟨zLt41 hg41 hc48, fun z => (zAll_succ.mp z).2 ⟨zbp hc58, Classical.not_not.mp hc72⟩⟩).symm))
  have hs : ¬ (g9 < 41 ∧ zIsIn σ (nI g9) (σ 3 k9) 1) := fun z => z.2 (fun k hk1 y => y.1.1 (by rw [show k = 0 by omega]; exact hW.z))
  have K18 : zV p l e ({ frames := 12, cells := 20, slots := 120, locals := 340 } : Room) s m args below meth c D (zA G s.heap.size) 0 0 (zxZ below D G (fun v G9 => v = some (.int 1) ∧ zLq B x (zu σ 2 t9 (nI g9)) m0 G9) (fun _ => False) args s ({ frames := 12, cells := 20, slots := 120, locals := 340 } : Room)) G 18 [some (.ref x), some (.int (nI k9)), some (.int (nI t9)), some (.int (nI g9)), none, none, none, none, none] [.int (zb (¬ zNot σ k9))] := by
    refine zz_istore (pc := 18) C dL_isGrouped_18 (Nat.le_of_ble_eq_true rfl) ?_
    refine zV.less (L' := [some (.ref (x)), some (.int (nI k9)), some (.int (nI t9)), some (.int (nI g9)), some (.int (zb (¬ zNot σ k9))), none, none, none, none]) ⟨rfl, rfl, rfl, rfl, rfl, trivial⟩ ?_
    refine zz_aload_n (pc := 20) C dL_isGrouped_20 rfl ?_
    refine zz_iload_n (pc := 21) C dL_isGrouped_21 rfl ?_
    refine zz_callV (pc := 22) C (q_group l D hC t1 ht t0) gL_isGrouped_X2_group rfl 1 (by decide +kernel) ⟨Nat.le_of_ble_eq_true rfl, Nat.le_of_ble_eq_true rfl⟩ hC.x (ci := 2) rfl rfl rfl dL_isGrouped_22 rfl (Nat.le_of_ble_eq_true rfl) rfl ⟨Nat.le_of_ble_eq_true rfl, Nat.le_of_ble_eq_true rfl⟩ ?_
    rintro v G9 ⟨rfl, rfl⟩
    refine zz_istore (pc := 25) C dL_isGrouped_25 (Nat.le_of_ble_eq_true rfl) ?_
    refine zV.less (L' := [some (.ref (x)), some (.int (nI k9)), some (.int (nI t9)), some (.int (nI g9)), some (.int (zb (¬ zNot σ k9))), some (.int (σ 2 t9)), none, none, none]) ⟨rfl, rfl, rfl, rfl, rfl, rfl, trivial⟩ ?_
    refine zz_iconst (pc := 27) C (v := 0) (by decide) dL_isGrouped_27 ?_
    refine zz_istore (pc := 28) C dL_isGrouped_28 (Nat.le_of_ble_eq_true rfl) ?_
    refine zV.less (L' := [some (.ref (x)), some (.int (nI k9)), some (.int (nI t9)), some (.int (nI g9)), some (.int (zb (¬ zNot σ k9))), some (.int (σ 2 t9)), some (.int (zb (g9 < 41 ∧ zIsIn σ (nI g9) (σ 3 k9) 1))), none, none]) ⟨rfl, rfl, rfl, rfl, rfl, rfl, zvi (zb_f hs).symm, trivial⟩ ?_
    refine zz_iconst (pc := 30) C (v := 1) (by decide) dL_isGrouped_30 ?_
    refine zz_istore (pc := 31) C dL_isGrouped_31 (Nat.le_of_ble_eq_true rfl) ?_
    refine zV.less (L' := [some (.ref (x)), some (.int (nI k9)), some (.int (nI t9)), some (.int (nI g9)), some (.int (zb (¬ zNot σ k9))), some (.int (σ 2 t9)), some (.int (zb (g9 < 41 ∧ zIsIn σ (nI g9) (σ 3 k9) 1))), some (.int (nI 1)), none]) ⟨rfl, rfl, rfl, rfl, rfl, rfl, rfl, rfl, trivial⟩ ?_
    exact loop 40 1 rfl (by omega)
  refine zz_iload_n (pc := 0) C dL_isGrouped_0 rfl ?_
  refine zz_iconst (pc := 1) C (v := 1) (by decide) dL_isGrouped_1 ?_
  refine zz_icmp_le (pc := 2) C (tgt := 17) dL_isGrouped_2 (by decide) (fun hc2 => ?_) (fun hc2 => ?_)
  · refine zz_iconst (pc := 17) C (v := 0) (by decide) dL_isGrouped_17 ?_
    exact zV.less (L' := [some (.ref x), some (.int (nI k9)), some (.int (nI t9)), some (.int (nI g9)), none, none, none, none, none]) ⟨rfl, rfl, rfl, rfl, trivial⟩ (zV.topK K18 ((zb_f (fun z => z (Or.inl (zLe1 h1 hk hc2)))).symm))
  · refine zz_aload_n (pc := 5) C dL_isGrouped_5 rfl ?_
    refine zz_iload_n (pc := 6) C dL_isGrouped_6 rfl ?_
    refine zz_callV (pc := 7) C (q_state l D hC h1 hk h0) gL_isGrouped_X2_state rfl 1 (by decide +kernel) ⟨Nat.le_of_ble_eq_true rfl, Nat.le_of_ble_eq_true rfl⟩ hC.x (ci := 2) rfl rfl rfl dL_isGrouped_7 rfl (Nat.le_of_ble_eq_true rfl) rfl ⟨Nat.le_of_ble_eq_true rfl, Nat.le_of_ble_eq_true rfl⟩ ?_
    rintro v G9 ⟨rfl, rfl⟩
    refine zz_if_ne (pc := 10) C (tgt := 17) dL_isGrouped_10 (by decide) (fun hc10 => ?_) (fun hc10 => ?_)
    · refine zz_iconst (pc := 17) C (v := 0) (by decide) dL_isGrouped_17 ?_
      exact zV.less (L' := [some (.ref x), some (.int (nI k9)), some (.int (nI t9)), some (.int (nI g9)), none, none, none, none, none]) ⟨rfl, rfl, rfl, rfl, trivial⟩ (zV.topK K18 ((zb_f (fun z => z (Or.inr (fun y => hc10 (zCon_0.mpr y))))).symm))
    · refine zz_iconst (pc := 13) C (v := 1) (by decide) dL_isGrouped_13 ?_
      refine zz_goto (pc := 14) C (tgt := 18) dL_isGrouped_14 (by decide) ?_
      exact zV.less (L' := [some (.ref x), some (.int (nI k9)), some (.int (nI t9)), some (.int (nI g9)), none, none, none, none, none]) ⟨rfl, rfl, rfl, rfl, trivial⟩ (zV.topK K18 ((zb_t (show ¬ zNot σ k9 from fun z => z.elim (fun y => hc2 (by rw [y]; decide)) (fun y => y (zCon_0.mp (Classical.not_not.mp hc10))))).symm))
set_option maxHeartbeats 4000000 in
set_option maxRecDepth 100000 in
theorem c_L_isGrouped_n (l : Launch) (hl : l.stackTraces = false) (D : va_G) {B G : zG} {x tb ev : Nat} {A : Nat → Nat} {σ : zS} {m0 : Nat} (hC : zCl B x tb ev A σ [] 0 m0 G) {k9 t9 g9 : Nat} (hI : zIv 0 σ []) (h1 : 1 ≤ k9) (hk : k9 < 41) (h0 : σ 0 k9 ≠ 0) (t1 : 1 ≤ t9) (ht : t9 < 41) (t0 : σ 0 t9 ≠ 0) (g1 : 1 ≤ g9) (g40 : g9 < 41) (hb : ¬ (¬ zNot σ k9 ∧ zPoss σ k9 t9 (nI g9))) : zxMet D l yL_isGrouped wsL_isGrouped ({ frames := 12, cells := 20, slots := 120, locals := 340 } : Room) [.ref x, .int (nI k9), .int (nI t9), .int (nI g9)] G (fun v G9 => v = some (.int 1) ∧ zLq B x (σ) m0 G9) (fun _ => False) := by
  refine zxMet_of (cc := cL_isGrouped) (maxL := 9) (ret := (some .boolean)) (by decide) rfl (Nat.le_of_ble_eq_true rfl) ?_
  intro p e s m args below meth c C hnx h8
  have hW := hI.wf
  have hg41 : g9 < 2 ^ 31 := by omega
  have hTH : zE3 (¬ zHere σ (nI k9) ∨ ¬ zHere σ (nI t9)) (nI g9 < 1 ∨ (40 : Int32) < nI g9) (zNot σ (pn (nI k9)) ∨ ¬ zPoss σ (pn (nI k9)) (pn (nI t9)) (nI g9)) = 3 := zE3_3 (fun z => z.elim (fun y => y (zHere_n h1 hk h0)) (fun y => y (zHere_n t1 ht t0))) (zNum_n g1 g40) (by rw [pnn hk, pnn ht]; by_cases z : zNot σ k9; exact Or.inl z; exact Or.inr (fun y => hb ⟨z, y⟩))
  have K153 : zV p l e ({ frames := 12, cells := 20, slots := 120, locals := 340 } : Room) s m args below meth c D (zA G s.heap.size) 0 0 (zxZ below D G (fun v G9 => v = some (.int 1) ∧ zLq B x (σ) m0 G9) (fun _ => False) args s ({ frames := 12, cells := 20, slots := 120, locals := 340 } : Room)) G 153 [some (.ref x), some (.int (nI k9)), some (.int (nI t9)), some (.int (nI g9)), some (.int (zb (¬ zNot σ k9))), some (.int (σ 2 t9)), none, none, none] [.int (zb (¬ zNot σ k9 ∧ g9 < 41 ∧ zPoss σ k9 t9 (nI g9)))] := by
    refine zz_istore (pc := 153) C dL_isGrouped_153 (Nat.le_of_ble_eq_true rfl) ?_
    refine zV.less (L' := [some (.ref (x)), some (.int (nI k9)), some (.int (nI t9)), some (.int (nI g9)), some (.int (zb (¬ zNot σ k9))), some (.int (σ 2 t9)), none, some (.int (zb (¬ zNot σ k9 ∧ g9 < 41 ∧ zPoss σ k9 t9 (nI g9)))), none]) ⟨rfl, rfl, rfl, rfl, rfl, rfl, rfl, trivial⟩ ?_
    refine zz_aload_n (pc := 155) C dL_isGrouped_155 rfl ?_
    refine zz_iload_n (pc := 156) C dL_isGrouped_156 rfl ?_
    refine zz_iload_n (pc := 157) C dL_isGrouped_157 rfl ?_
    refine zz_iload_n (pc := 158) C dL_isGrouped_158 rfl ?_
    refine zzx_callSW (pc := 159) C h8 ((c_L_setsGroup l hl D (x9 := nI k9) (t9 := nI t9) (g9 := nI g9) hC hW).imp (fun _ _ z => z.elim (fun y => absurd (hTH.symm.trans y.1) (by decide)) (fun z => z.elim (fun y => absurd (hTH.symm.trans y.1) (by decide)) (fun z => z.elim (fun y => absurd (hTH.symm.trans y.1) (by decide)) (fun z => z)))) (fun _ z => z)) gL_isGrouped_L_setsGroup rfl 4 (by decide +kernel) ⟨Nat.le_of_ble_eq_true rfl, Nat.le_of_ble_eq_true rfl⟩ rfl dL_isGrouped_159 rfl (Nat.le_of_ble_eq_true rfl) rfl ⟨Nat.le_of_ble_eq_true rfl, Nat.le_of_ble_eq_true rfl⟩ (fun E hE => hE.elim) ?_
    rintro v G9 ⟨_, rfl, rfl⟩
    refine zz_istore (pc := 162) C dL_isGrouped_162 (Nat.le_of_ble_eq_true rfl) ?_
    refine zV.less (L' := [some (.ref (x)), some (.int (nI k9)), some (.int (nI t9)), some (.int (nI g9)), some (.int (zb (¬ zNot σ k9))), some (.int (σ 2 t9)), none, some (.int (zb (¬ zNot σ k9 ∧ g9 < 41 ∧ zPoss σ k9 t9 (nI g9)))), some (.int (-10))]) ⟨rfl, rfl, rfl, rfl, rfl, rfl, rfl, rfl, trivial⟩ ?_
    refine zz_iload (pc := 164) C dL_isGrouped_164 rfl ?_
    refine zz_iload_n (pc := 166) C dL_isGrouped_166 rfl ?_
    refine zz_bipush (pc := 167) C (v := 40) (by decide) dL_isGrouped_167 ?_
    refine zz_icmp_le (pc := 169) C (tgt := 177) dL_isGrouped_169 (by decide) (fun hc169 => ?_) (fun hc169 => ?_)
    · refine zz_iload (pc := 177) C dL_isGrouped_177 rfl ?_
      refine zz_if_eq (pc := 179) C (tgt := 187) dL_isGrouped_179 (by decide) (fun hc179 => ?_) (fun hc179 => ?_)
      · refine zz_bipush (pc := 187) C (v := -10) (by decide) dL_isGrouped_187 ?_
        refine zz_icmp_ne (pc := 189) C (tgt := 221) dL_isGrouped_189 (by decide) (fun hc189 => ?_) (fun hc189 => ?_)
        · exact absurd rfl hc189
        · refine zz_aload_n (pc := 192) C dL_isGrouped_192 rfl ?_
          refine zz_iload_n (pc := 193) C dL_isGrouped_193 rfl ?_
          refine zz_callV (pc := 194) C (q_group l D hC t1 ht t0) gL_isGrouped_X2_group rfl 1 (by decide +kernel) ⟨Nat.le_of_ble_eq_true rfl, Nat.le_of_ble_eq_true rfl⟩ hC.x (ci := 2) rfl rfl rfl dL_isGrouped_194 rfl (Nat.le_of_ble_eq_true rfl) rfl ⟨Nat.le_of_ble_eq_true rfl, Nat.le_of_ble_eq_true rfl⟩ ?_
          rintro v G9 ⟨rfl, rfl⟩
          refine zz_iload_n (pc := 197) C dL_isGrouped_197 rfl ?_
          refine zz_bipush (pc := 198) C (v := 41) (by decide) dL_isGrouped_198 ?_
          refine zz_icmp_ge (pc := 200) C (tgt := 212) dL_isGrouped_200 (by decide) (fun hc200 => ?_) (fun hc200 => ?_)
          · exact absurd hc200 (z41b g40)
          · refine zz_iload (pc := 203) C dL_isGrouped_203 rfl ?_
            refine zz_if_eq (pc := 205) C (tgt := 212) dL_isGrouped_205 (by decide) (fun hc205 => ?_) (fun hc205 => ?_)
            · refine zz_iload (pc := 212) C dL_isGrouped_212 rfl ?_
              refine zz_icmp_ne (pc := 214) C (tgt := 221) dL_isGrouped_214 (by decide) (fun hc214 => ?_) (fun hc214 => ?_)
              · exact absurd rfl hc214
              · refine zz_iconst (pc := 217) C (v := 1) (by decide) dL_isGrouped_217 ?_
                refine zz_goto (pc := 218) C (tgt := 222) dL_isGrouped_218 (by decide) ?_
                exact zzx_ret (zz_ireturn (pc := 222) C dL_isGrouped_222 (by first | rfl | exact zb_nar) (Nat.le_of_ble_eq_true rfl) (Nat.le_of_ble_eq_true rfl) ⟨rfl, ⟨tb, ev, A, hC⟩⟩)
            · exact False.elim (hb ⟨(zbp hc205).1, (zbp hc205).2.2⟩)
      · exact False.elim (hb ⟨(zbp hc179).1, (zbp hc179).2.2⟩)
    · exact absurd (z40c (by omega)) hc169
  have K107 : ¬ zNot σ k9 → (t9 = k9 ∨ σ 1 t9 = nI k9) → zV p l e ({ frames := 12, cells := 20, slots := 120, locals := 340 } : Room) s m args below meth c D (zA G s.heap.size) 0 0 (zxZ below D G (fun v G9 => v = some (.int 1) ∧ zLq B x (σ) m0 G9) (fun _ => False) args s ({ frames := 12, cells := 20, slots := 120, locals := 340 } : Room)) G 107 [some (.ref x), some (.int (nI k9)), some (.int (nI t9)), some (.int (nI g9)), some (.int (zb (¬ zNot σ k9))), some (.int (σ 2 t9)), some (.int (zb (g9 < 41 ∧ zIsIn σ (nI g9) (σ 3 k9) 41))), none, none] [] := by
    intro hcan hpar
    refine zz_aload_n (pc := 107) C dL_isGrouped_107 rfl ?_
    refine zz_iload_n (pc := 108) C dL_isGrouped_108 rfl ?_
    refine zz_callV (pc := 109) C (q_state l D hC t1 ht t0) gL_isGrouped_X2_state rfl 1 (by decide +kernel) ⟨Nat.le_of_ble_eq_true rfl, Nat.le_of_ble_eq_true rfl⟩ hC.x (ci := 2) rfl rfl rfl dL_isGrouped_109 rfl (Nat.le_of_ble_eq_true rfl) rfl ⟨Nat.le_of_ble_eq_true rfl, Nat.le_of_ble_eq_true rfl⟩ ?_
    rintro v G9 ⟨rfl, rfl⟩
    refine zz_iconst (pc := 112) C (v := 3) (by decide) dL_isGrouped_112 ?_
    refine zz_icmp_eq (pc := 113) C (tgt := 152) dL_isGrouped_113 (by decide) (fun hc113 => ?_) (fun hc113 => ?_)
    · refine zz_iconst (pc := 152) C (v := 0) (by decide) dL_isGrouped_152 ?_
      exact zV.less (L' := [some (.ref x), some (.int (nI k9)), some (.int (nI t9)), some (.int (nI g9)), some (.int (zb (¬ zNot σ k9))), some (.int (σ 2 t9)), none, none, none]) ⟨rfl, rfl, rfl, rfl, rfl, rfl, trivial⟩ (zV.topK K153 ((zb_f (fun z => zCon_3.mp hc113 z.2.2.2.1)).symm))
    · refine zz_aload_n (pc := 116) C dL_isGrouped_116 rfl ?_
      refine zz_iload_n (pc := 117) C dL_isGrouped_117 rfl ?_
      refine zz_callV (pc := 118) C (q_session l D hC t1 ht t0) gL_isGrouped_X2_session rfl 1 (by decide +kernel) ⟨Nat.le_of_ble_eq_true rfl, Nat.le_of_ble_eq_true rfl⟩ hC.x (ci := 2) rfl rfl rfl dL_isGrouped_118 rfl (Nat.le_of_ble_eq_true rfl) rfl ⟨Nat.le_of_ble_eq_true rfl, Nat.le_of_ble_eq_true rfl⟩ ?_
      rintro v G9 ⟨rfl, rfl⟩
      refine zz_iload_n (pc := 121) C dL_isGrouped_121 rfl ?_
      refine zz_icmp_eq (pc := 122) C (tgt := 152) dL_isGrouped_122 (by decide) (fun hc122 => ?_) (fun hc122 => ?_)
      · refine zz_iconst (pc := 152) C (v := 0) (by decide) dL_isGrouped_152 ?_
        exact zV.less (L' := [some (.ref x), some (.int (nI k9)), some (.int (nI t9)), some (.int (nI g9)), some (.int (zb (¬ zNot σ k9))), some (.int (σ 2 t9)), none, none, none]) ⟨rfl, rfl, rfl, rfl, rfl, rfl, trivial⟩ (zV.topK K153 ((zb_f (fun z => z.2.2.2.2.1 hc122)).symm))
      · refine zz_aload_n (pc := 125) C dL_isGrouped_125 rfl ?_
        refine zz_iload_n (pc := 126) C dL_isGrouped_126 rfl ?_
        refine zz_callV (pc := 127) C (q_session l D hC t1 ht t0) gL_isGrouped_X2_session rfl 1 (by decide +kernel) ⟨Nat.le_of_ble_eq_true rfl, Nat.le_of_ble_eq_true rfl⟩ hC.x (ci := 2) rfl rfl rfl dL_isGrouped_127 rfl (Nat.le_of_ble_eq_true rfl) rfl ⟨Nat.le_of_ble_eq_true rfl, Nat.le_of_ble_eq_true rfl⟩ ?_
        rintro v G9 ⟨rfl, rfl⟩
        refine zz_aload_n (pc := 130) C dL_isGrouped_130 rfl ?_
        refine zz_iload_n (pc := 131) C dL_isGrouped_131 rfl ?_
        refine zz_callV (pc := 132) C (q_session l D hC h1 hk h0) gL_isGrouped_X2_session rfl 1 (by decide +kernel) ⟨Nat.le_of_ble_eq_true rfl, Nat.le_of_ble_eq_true rfl⟩ hC.x (ci := 2) rfl rfl rfl dL_isGrouped_132 rfl (Nat.le_of_ble_eq_true rfl) rfl ⟨Nat.le_of_ble_eq_true rfl, Nat.le_of_ble_eq_true rfl⟩ ?_
        rintro v G9 ⟨rfl, rfl⟩
        refine zz_icmp_ne (pc := 135) C (tgt := 152) dL_isGrouped_135 (by decide) (fun hc135 => ?_) (fun hc135 => ?_)
        · refine zz_iconst (pc := 152) C (v := 0) (by decide) dL_isGrouped_152 ?_
          exact zV.less (L' := [some (.ref x), some (.int (nI k9)), some (.int (nI t9)), some (.int (nI g9)), some (.int (zb (¬ zNot σ k9))), some (.int (σ 2 t9)), none, none, none]) ⟨rfl, rfl, rfl, rfl, rfl, rfl, trivial⟩ (zV.topK K153 ((zb_f (fun z => hc135 z.2.2.2.2.2.1)).symm))
        · refine zz_iload_n (pc := 138) C dL_isGrouped_138 rfl ?_
          refine zz_iload_n (pc := 139) C dL_isGrouped_139 rfl ?_
          refine zz_icmp_eq (pc := 140) C (tgt := 148) dL_isGrouped_140 (by decide) (fun hc140 => ?_) (fun hc140 => ?_)
          · refine zz_iconst (pc := 148) C (v := 1) (by decide) dL_isGrouped_148 ?_
            refine zz_goto (pc := 149) C (tgt := 153) dL_isGrouped_149 (by decide) ?_
            exact zV.less (L' := [some (.ref x), some (.int (nI k9)), some (.int (nI t9)), some (.int (nI g9)), some (.int (zb (¬ zNot σ k9))), some (.int (σ 2 t9)), none, none, none]) ⟨rfl, rfl, rfl, rfl, rfl, rfl, trivial⟩ (zV.topK K153 ((zb_t ⟨hcan, by have := (nI_eq (a := g9) (b := t9) hg41 (by omega)).mp hc140; omega, hpar, Classical.not_not.mp (fun y => hc113 (zCon_3.mpr y)), hc122, Classical.not_not.mp hc135, Or.inl hc140⟩).symm))
          · refine zz_iload (pc := 143) C dL_isGrouped_143 rfl ?_
            refine zz_if_eq (pc := 145) C (tgt := 152) dL_isGrouped_145 (by decide) (fun hc145 => ?_) (fun hc145 => ?_)
            · refine zz_iconst (pc := 152) C (v := 0) (by decide) dL_isGrouped_152 ?_
              exact zV.less (L' := [some (.ref x), some (.int (nI k9)), some (.int (nI t9)), some (.int (nI g9)), some (.int (zb (¬ zNot σ k9))), some (.int (σ 2 t9)), none, none, none]) ⟨rfl, rfl, rfl, rfl, rfl, rfl, trivial⟩ (zV.topK K153 ((zb_f (fun z => z.2.2.2.2.2.2.elim hc140 (fun y => zb_eq.mp hc145 ⟨z.2.1, y⟩))).symm))
            · refine zz_iconst (pc := 148) C (v := 1) (by decide) dL_isGrouped_148 ?_
              refine zz_goto (pc := 149) C (tgt := 153) dL_isGrouped_149 (by decide) ?_
              exact zV.less (L' := [some (.ref x), some (.int (nI k9)), some (.int (nI t9)), some (.int (nI g9)), some (.int (zb (¬ zNot σ k9))), some (.int (σ 2 t9)), none, none, none]) ⟨rfl, rfl, rfl, rfl, rfl, rfl, trivial⟩ (zV.topK K153 ((zb_t ⟨hcan, (zbp hc145).1, hpar, Classical.not_not.mp (fun y => hc113 (zCon_3.mpr y)), hc122, Classical.not_not.mp hc135, Or.inr (zbp hc145).2⟩).symm))
  have loop : ∀ (n i : Nat), i + n = 41 → 1 ≤ i → zV p l e ({ frames := 12, cells := 20, slots := 120, locals := 340 } : Room) s m args below meth c D (zA G s.heap.size) 0 0 (zxZ below D G (fun v G9 => v = some (.int 1) ∧ zLq B x (σ) m0 G9) (fun _ => False) args s ({ frames := 12, cells := 20, slots := 120, locals := 340 } : Room)) G 33 [some (.ref x), some (.int (nI k9)), some (.int (nI t9)), some (.int (nI g9)), some (.int (zb (¬ zNot σ k9))), some (.int (σ 2 t9)), some (.int (zb (g9 < 41 ∧ zIsIn σ (nI g9) (σ 3 k9) i))), some (.int (nI (i))), none] [] := by
    intro n
    induction n with
    | zero =>
      intro i hi hi1
      have hi41 : i = 41 := by omega
      subst hi41
      refine zz_iload (pc := 33) C dL_isGrouped_33 rfl ?_
      refine zz_bipush (pc := 35) C (v := 41) (by decide) dL_isGrouped_35 ?_
      refine zz_icmp_ge (pc := 37) C (tgt := 88) dL_isGrouped_37 (by decide) (fun hc37 => ?_) (fun hc37 => ?_)
      · refine zz_iload (pc := 88) C dL_isGrouped_88 rfl ?_
        refine zz_if_eq (pc := 90) C (tgt := 152) dL_isGrouped_90 (by decide) (fun hc90 => ?_) (fun hc90 => ?_)
        · refine zz_iconst (pc := 152) C (v := 0) (by decide) dL_isGrouped_152 ?_
          exact zV.less (L' := [some (.ref x), some (.int (nI k9)), some (.int (nI t9)), some (.int (nI g9)), some (.int (zb (¬ zNot σ k9))), some (.int (σ 2 t9)), none, none, none]) ⟨rfl, rfl, rfl, rfl, rfl, rfl, trivial⟩ (zV.topK K153 ((zb_f (fun z => zb_eq.mp hc90 z.1)).symm))
        · refine zz_iload_n (pc := 93) C dL_isGrouped_93 rfl ?_
          refine zz_iload_n (pc := 94) C dL_isGrouped_94 rfl ?_
          refine zz_icmp_eq (pc := 95) C (tgt := 107) dL_isGrouped_95 (by decide) (fun hc95 => ?_) (fun hc95 => ?_)
          · exact zV.less (L' := [some (.ref x), some (.int (nI k9)), some (.int (nI t9)), some (.int (nI g9)), some (.int (zb (¬ zNot σ k9))), some (.int (σ 2 t9)), some (.int (zb (g9 < 41 ∧ zIsIn σ (nI g9) (σ 3 k9) 41))), none, none]) ⟨rfl, rfl, rfl, rfl, rfl, rfl, rfl, trivial⟩ (K107 (zbp hc90) (Or.inl ((nI_eq (by omega) (by omega)).mp hc95)))
          · refine zz_aload_n (pc := 98) C dL_isGrouped_98 rfl ?_
            refine zz_iload_n (pc := 99) C dL_isGrouped_99 rfl ?_
            refine zz_callV (pc := 100) C (q_parent l D hC hW t1 ht t0) gL_isGrouped_X2_parent rfl 1 (by decide +kernel) ⟨Nat.le_of_ble_eq_true rfl, Nat.le_of_ble_eq_true rfl⟩ hC.x (ci := 2) rfl rfl rfl dL_isGrouped_100 rfl (Nat.le_of_ble_eq_true rfl) rfl ⟨Nat.le_of_ble_eq_true rfl, Nat.le_of_ble_eq_true rfl⟩ ?_
            rintro v G9 ⟨rfl, rfl⟩
            refine zz_iload_n (pc := 103) C dL_isGrouped_103 rfl ?_
            refine zz_icmp_ne (pc := 104) C (tgt := 152) dL_isGrouped_104 (by decide) (fun hc104 => ?_) (fun hc104 => ?_)
            · refine zz_iconst (pc := 152) C (v := 0) (by decide) dL_isGrouped_152 ?_
              exact zV.less (L' := [some (.ref x), some (.int (nI k9)), some (.int (nI t9)), some (.int (nI g9)), some (.int (zb (¬ zNot σ k9))), some (.int (σ 2 t9)), none, none, none]) ⟨rfl, rfl, rfl, rfl, rfl, rfl, trivial⟩ (zV.topK K153 ((zb_f (fun z => z.2.2.1.elim (fun y => hc95 (by rw [y])) hc104)).symm))
            · exact zV.less (L' := [some (.ref x), some (.int (nI k9)), some (.int (nI t9)), some (.int (nI g9)), some (.int (zb (¬ zNot σ k9))), some (.int (σ 2 t9)), some (.int (zb (g9 < 41 ∧ zIsIn σ (nI g9) (σ 3 k9) 41))), none, none]) ⟨rfl, rfl, rfl, rfl, rfl, rfl, rfl, trivial⟩ (K107 (zbp hc90) (Or.inr (Classical.not_not.mp hc104)))
      · exact absurd z41c hc37
    | succ n ih =>
      intro i hi hi1
      have K80 : zV p l e ({ frames := 12, cells := 20, slots := 120, locals := 340 } : Room) s m args below meth c D (zA G s.heap.size) 0 0 (zxZ below D G (fun v G9 => v = some (.int 1) ∧ zLq B x (σ) m0 G9) (fun _ => False) args s ({ frames := 12, cells := 20, slots := 120, locals := 340 } : Room)) G 80 [some (.ref x), some (.int (nI k9)), some (.int (nI t9)), some (.int (nI g9)), some (.int (zb (¬ zNot σ k9))), some (.int (σ 2 t9)), some (.int (zb (g9 < 41 ∧ zIsIn σ (nI g9) (σ 3 k9) i))), some (.int (nI (i))), none] [.int (zb (g9 < 41 ∧ zIsIn σ (nI g9) (σ 3 k9) (i + 1)))] := by
        refine zz_istore (pc := 80) C dL_isGrouped_80 (Nat.le_of_ble_eq_true rfl) ?_
        refine zV.less (L' := [some (.ref (x)), some (.int (nI k9)), some (.int (nI t9)), some (.int (nI g9)), some (.int (zb (¬ zNot σ k9))), some (.int (σ 2 t9)), some (.int (zb (g9 < 41 ∧ zIsIn σ (nI g9) (σ 3 k9) (i + 1)))), some (.int (nI (i))), none]) ⟨rfl, rfl, rfl, rfl, rfl, rfl, rfl, rfl, trivial⟩ ?_
        refine zz_iinc (pc := 82) C dL_isGrouped_82 rfl ?_
        refine zV.less (L' := [some (.ref (x)), some (.int (nI k9)), some (.int (nI t9)), some (.int (nI g9)), some (.int (zb (¬ zNot σ k9))), some (.int (σ 2 t9)), some (.int (zb (g9 < 41 ∧ zIsIn σ (nI g9) (σ 3 k9) (i + 1)))), some (.int (nI (i + 1))), none]) ⟨rfl, rfl, rfl, rfl, rfl, rfl, rfl, zvi (z1i i), trivial⟩ ?_
        refine zz_goto (pc := 85) C (tgt := 33) dL_isGrouped_85 (by decide) ?_
        exact ih (i + 1) (by omega) (by omega)
      refine zz_iload (pc := 33) C dL_isGrouped_33 rfl ?_
      refine zz_bipush (pc := 35) C (v := 41) (by decide) dL_isGrouped_35 ?_
      refine zz_icmp_ge (pc := 37) C (tgt := 88) dL_isGrouped_37 (by decide) (fun hc37 => ?_) (fun hc37 => ?_)
      · exact absurd hc37 (z41b (by omega))
      · refine zz_iload (pc := 40) C dL_isGrouped_40 rfl ?_
        refine zz_if_ne (pc := 42) C (tgt := 75) dL_isGrouped_42 (by decide) (fun hc42 => ?_) (fun hc42 => ?_)
        · refine zz_iconst (pc := 75) C (v := 1) (by decide) dL_isGrouped_75 ?_
          refine zz_goto (pc := 76) C (tgt := 80) dL_isGrouped_76 (by decide) ?_
          exact zV.less (L' := [some (.ref x), some (.int (nI k9)), some (.int (nI t9)), some (.int (nI g9)), some (.int (zb (¬ zNot σ k9))), some (.int (σ 2 t9)), some (.int (zb (g9 < 41 ∧ zIsIn σ (nI g9) (σ 3 k9) i))), some (.int (nI (i))), none]) ⟨rfl, rfl, rfl, rfl, rfl, rfl, rfl, rfl, trivial⟩ (zV.topK K80 ((zb_t ⟨(zb_ne.mp hc42).1, fun z => (zb_ne.mp hc42).2 (zAll_succ.mp z).1⟩).symm))
        · refine zz_iload_n (pc := 45) C dL_isGrouped_45 rfl ?_
          refine zz_bipush (pc := 46) C (v := 41) (by decide) dL_isGrouped_46 ?_
          refine zz_icmp_ge (pc := 48) C (tgt := 79) dL_isGrouped_48 (by decide) (fun hc48 => ?_) (fun hc48 => ?_)
          · refine zz_iconst (pc := 79) C (v := 0) (by decide) dL_isGrouped_79 ?_
            exact zV.less (L' := [some (.ref x), some (.int (nI k9)), some (.int (nI t9)), some (.int (nI g9)), some (.int (zb (¬ zNot σ k9))), some (.int (σ 2 t9)), some (.int (zb (g9 < 41 ∧ zIsIn σ (nI g9) (σ 3 k9) i))), some (.int (nI (i))), none]) ⟨rfl, rfl, rfl, rfl, rfl, rfl, rfl, rfl, trivial⟩ (zV.topK K80 ((zb_f (fun z => z41b z.1 hc48)).symm))
          · refine zz_aload_n (pc := 51) C dL_isGrouped_51 rfl ?_
            refine zz_iload (pc := 52) C dL_isGrouped_52 rfl ?_
            refine zz_iload_n (pc := 54) C dL_isGrouped_54 rfl ?_
            refine zz_callS (pc := 55) C (c_L_isMember l D hC (by omega) (by omega)) gL_isGrouped_L_isMember rfl 3 (by decide +kernel) ⟨Nat.le_of_ble_eq_true rfl, Nat.le_of_ble_eq_true rfl⟩ rfl dL_isGrouped_55 rfl (Nat.le_of_ble_eq_true rfl) rfl ⟨Nat.le_of_ble_eq_true rfl, Nat.le_of_ble_eq_true rfl⟩ ?_
            rintro v G9 ⟨rfl, rfl⟩
            refine zz_if_eq (pc := 58) C (tgt := 79) dL_isGrouped_58 (by decide) (fun hc58 => ?_) (fun hc58 => ?_)
            · refine zz_iconst (pc := 79) C (v := 0) (by decide) dL_isGrouped_79 ?_
              exact zV.less (L' := [some (.ref x), some (.int (nI k9)), some (.int (nI t9)), some (.int (nI g9)), some (.int (zb (¬ zNot σ k9))), some (.int (σ 2 t9)), some (.int (zb (g9 < 41 ∧ zIsIn σ (nI g9) (σ 3 k9) i))), some (.int (nI (i))), none]) ⟨rfl, rfl, rfl, rfl, rfl, rfl, rfl, rfl, trivial⟩ (zV.topK K80 ((zb_f (fun z => z.2 (zAll_succ.mpr ⟨Classical.not_not.mp (fun y => hc42 (zb_ne.mpr ⟨z.1, y⟩)), fun y => zb_eq.mp hc58 y.1⟩))).symm))
            · refine zz_aload_n (pc := 61) C dL_isGrouped_61 rfl ?_
              refine zz_iload (pc := 62) C dL_isGrouped_62 rfl ?_
              refine zz_callV (pc := 64) C (q_session l D hC (by omega) (by omega) (zbp hc58).1) gL_isGrouped_X2_session rfl 1 (by decide +kernel) ⟨Nat.le_of_ble_eq_true rfl, Nat.le_of_ble_eq_true rfl⟩ hC.x (ci := 2) rfl rfl rfl dL_isGrouped_64 rfl (Nat.le_of_ble_eq_true rfl) rfl ⟨Nat.le_of_ble_eq_true rfl, Nat.le_of_ble_eq_true rfl⟩ ?_
              rintro v G9 ⟨rfl, rfl⟩
              refine zz_aload_n (pc := 67) C dL_isGrouped_67 rfl ?_
              refine zz_iload_n (pc := 68) C dL_isGrouped_68 rfl ?_
              refine zz_callV (pc := 69) C (q_session l D hC h1 hk h0) gL_isGrouped_X2_session rfl 1 (by decide +kernel) ⟨Nat.le_of_ble_eq_true rfl, Nat.le_of_ble_eq_true rfl⟩ hC.x (ci := 2) rfl rfl rfl dL_isGrouped_69 rfl (Nat.le_of_ble_eq_true rfl) rfl ⟨Nat.le_of_ble_eq_true rfl, Nat.le_of_ble_eq_true rfl⟩ ?_
              rintro v G9 ⟨rfl, rfl⟩
              refine zz_icmp_ne (pc := 72) C (tgt := 79) dL_isGrouped_72 (by decide) (fun hc72 => ?_) (fun hc72 => ?_)
              · refine zz_iconst (pc := 79) C (v := 0) (by decide) dL_isGrouped_79 ?_
                exact zV.less (L' := [some (.ref x), some (.int (nI k9)), some (.int (nI t9)), some (.int (nI g9)), some (.int (zb (¬ zNot σ k9))), some (.int (σ 2 t9)), some (.int (zb (g9 < 41 ∧ zIsIn σ (nI g9) (σ 3 k9) i))), some (.int (nI (i))), none]) ⟨rfl, rfl, rfl, rfl, rfl, rfl, rfl, rfl, trivial⟩ (zV.topK K80 ((zb_f (fun z => z.2 (zAll_succ.mpr ⟨Classical.not_not.mp (fun y => hc42 (zb_ne.mpr ⟨z.1, y⟩)), fun y => hc72 y.2⟩))).symm))
              · refine zz_iconst (pc := 75) C (v := 1) (by decide) dL_isGrouped_75 ?_
                refine zz_goto (pc := 76) C (tgt := 80) dL_isGrouped_76 (by decide) ?_
                exact zV.less (L' := [some (.ref x), some (.int (nI k9)), some (.int (nI t9)), some (.int (nI g9)), some (.int (zb (¬ zNot σ k9))), some (.int (σ 2 t9)), some (.int (zb (g9 < 41 ∧ zIsIn σ (nI g9) (σ 3 k9) i))), some (.int (nI (i))), none]) ⟨rfl, rfl, rfl, rfl, rfl, rfl, rfl, rfl, trivial⟩ (zV.topK K80 ((zb_t ⟨zLt41 hg41 hc48, fun z => (zAll_succ.mp z).2 ⟨zbp hc58, Classical.not_not.mp hc72⟩⟩).symm))
  have hs : ¬ (g9 < 41 ∧ zIsIn σ (nI g9) (σ 3 k9) 1) := fun z => z.2 (fun k hk1 y => y.1.1 (by rw [show k = 0 by omega]; exact hW.z))
  have K18 : zV p l e ({ frames := 12, cells := 20, slots := 120, locals := 340 } : Room) s m args below meth c D (zA G s.heap.size) 0 0 (zxZ below D G (fun v G9 => v = some (.int 1) ∧ zLq B x (σ) m0 G9) (fun _ => False) args s ({ frames := 12, cells := 20, slots := 120, locals := 340 } : Room)) G 18 [some (.ref x), some (.int (nI k9)), some (.int (nI t9)), some (.int (nI g9)), none, none, none, none, none] [.int (zb (¬ zNot σ k9))] := by
    refine zz_istore (pc := 18) C dL_isGrouped_18 (Nat.le_of_ble_eq_true rfl) ?_
    refine zV.less (L' := [some (.ref (x)), some (.int (nI k9)), some (.int (nI t9)), some (.int (nI g9)), some (.int (zb (¬ zNot σ k9))), none, none, none, none]) ⟨rfl, rfl, rfl, rfl, rfl, trivial⟩ ?_
    refine zz_aload_n (pc := 20) C dL_isGrouped_20 rfl ?_
    refine zz_iload_n (pc := 21) C dL_isGrouped_21 rfl ?_
    refine zz_callV (pc := 22) C (q_group l D hC t1 ht t0) gL_isGrouped_X2_group rfl 1 (by decide +kernel) ⟨Nat.le_of_ble_eq_true rfl, Nat.le_of_ble_eq_true rfl⟩ hC.x (ci := 2) rfl rfl rfl dL_isGrouped_22 rfl (Nat.le_of_ble_eq_true rfl) rfl ⟨Nat.le_of_ble_eq_true rfl, Nat.le_of_ble_eq_true rfl⟩ ?_
    rintro v G9 ⟨rfl, rfl⟩
    refine zz_istore (pc := 25) C dL_isGrouped_25 (Nat.le_of_ble_eq_true rfl) ?_
    refine zV.less (L' := [some (.ref (x)), some (.int (nI k9)), some (.int (nI t9)), some (.int (nI g9)), some (.int (zb (¬ zNot σ k9))), some (.int (σ 2 t9)), none, none, none]) ⟨rfl, rfl, rfl, rfl, rfl, rfl, trivial⟩ ?_
    refine zz_iconst (pc := 27) C (v := 0) (by decide) dL_isGrouped_27 ?_
    refine zz_istore (pc := 28) C dL_isGrouped_28 (Nat.le_of_ble_eq_true rfl) ?_
    refine zV.less (L' := [some (.ref (x)), some (.int (nI k9)), some (.int (nI t9)), some (.int (nI g9)), some (.int (zb (¬ zNot σ k9))), some (.int (σ 2 t9)), some (.int (zb (g9 < 41 ∧ zIsIn σ (nI g9) (σ 3 k9) 1))), none, none]) ⟨rfl, rfl, rfl, rfl, rfl, rfl, zvi (zb_f hs).symm, trivial⟩ ?_
    refine zz_iconst (pc := 30) C (v := 1) (by decide) dL_isGrouped_30 ?_
    refine zz_istore (pc := 31) C dL_isGrouped_31 (Nat.le_of_ble_eq_true rfl) ?_
    refine zV.less (L' := [some (.ref (x)), some (.int (nI k9)), some (.int (nI t9)), some (.int (nI g9)), some (.int (zb (¬ zNot σ k9))), some (.int (σ 2 t9)), some (.int (zb (g9 < 41 ∧ zIsIn σ (nI g9) (σ 3 k9) 1))), some (.int (nI 1)), none]) ⟨rfl, rfl, rfl, rfl, rfl, rfl, rfl, rfl, trivial⟩ ?_
    exact loop 40 1 rfl (by omega)
  refine zz_iload_n (pc := 0) C dL_isGrouped_0 rfl ?_
  refine zz_iconst (pc := 1) C (v := 1) (by decide) dL_isGrouped_1 ?_
  refine zz_icmp_le (pc := 2) C (tgt := 17) dL_isGrouped_2 (by decide) (fun hc2 => ?_) (fun hc2 => ?_)
  · refine zz_iconst (pc := 17) C (v := 0) (by decide) dL_isGrouped_17 ?_
    exact zV.less (L' := [some (.ref x), some (.int (nI k9)), some (.int (nI t9)), some (.int (nI g9)), none, none, none, none, none]) ⟨rfl, rfl, rfl, rfl, trivial⟩ (zV.topK K18 ((zb_f (fun z => z (Or.inl (zLe1 h1 hk hc2)))).symm))
  · refine zz_aload_n (pc := 5) C dL_isGrouped_5 rfl ?_
    refine zz_iload_n (pc := 6) C dL_isGrouped_6 rfl ?_
    refine zz_callV (pc := 7) C (q_state l D hC h1 hk h0) gL_isGrouped_X2_state rfl 1 (by decide +kernel) ⟨Nat.le_of_ble_eq_true rfl, Nat.le_of_ble_eq_true rfl⟩ hC.x (ci := 2) rfl rfl rfl dL_isGrouped_7 rfl (Nat.le_of_ble_eq_true rfl) rfl ⟨Nat.le_of_ble_eq_true rfl, Nat.le_of_ble_eq_true rfl⟩ ?_
    rintro v G9 ⟨rfl, rfl⟩
    refine zz_if_ne (pc := 10) C (tgt := 17) dL_isGrouped_10 (by decide) (fun hc10 => ?_) (fun hc10 => ?_)
    · refine zz_iconst (pc := 17) C (v := 0) (by decide) dL_isGrouped_17 ?_
      exact zV.less (L' := [some (.ref x), some (.int (nI k9)), some (.int (nI t9)), some (.int (nI g9)), none, none, none, none, none]) ⟨rfl, rfl, rfl, rfl, trivial⟩ (zV.topK K18 ((zb_f (fun z => z (Or.inr (fun y => hc10 (zCon_0.mpr y))))).symm))
    · refine zz_iconst (pc := 13) C (v := 1) (by decide) dL_isGrouped_13 ?_
      refine zz_goto (pc := 14) C (tgt := 18) dL_isGrouped_14 (by decide) ?_
      exact zV.less (L' := [some (.ref x), some (.int (nI k9)), some (.int (nI t9)), some (.int (nI g9)), none, none, none, none, none]) ⟨rfl, rfl, rfl, rfl, trivial⟩ (zV.topK K18 ((zb_t (show ¬ zNot σ k9 from fun z => z.elim (fun y => hc2 (by rw [y]; decide)) (fun y => y (zCon_0.mp (Classical.not_not.mp hc10))))).symm))
set_option maxHeartbeats 4000000 in
set_option maxRecDepth 100000 in
theorem c_L_isGrouped_a (l : Launch) (hl : l.stackTraces = false) (D : va_G) {B G : zG} {x tb ev : Nat} {A : Nat → Nat} {σ : zS} {m0 : Nat} (hC : zCl B x tb ev A σ [] 0 m0 G) {k9 t9 g9 : Nat} (hI : zIv 0 σ []) (h1 : 1 ≤ k9) (hk : k9 < 41) (h0 : σ 0 k9 ≠ 0) (t1 : 1 ≤ t9) (ht : t9 < 41) (t0 : σ 0 t9 ≠ 0) (g1 : 1 ≤ g9) (g40 : g9 = 41) : zxMet D l yL_isGrouped wsL_isGrouped ({ frames := 12, cells := 20, slots := 120, locals := 340 } : Room) [.ref x, .int (nI k9), .int (nI t9), .int (nI g9)] G (fun v G9 => v = some (.int 1) ∧ zLq B x (σ) m0 G9) (fun _ => False) := by
  refine zxMet_of (cc := cL_isGrouped) (maxL := 9) (ret := (some .boolean)) (by decide) rfl (Nat.le_of_ble_eq_true rfl) ?_
  intro p e s m args below meth c C hnx h8
  have hW := hI.wf
  have hg41 : g9 < 2 ^ 31 := by omega
  have hTH : zE3 (¬ zHere σ (nI k9) ∨ ¬ zHere σ (nI t9)) (nI g9 < 1 ∨ (40 : Int32) < nI g9) (zNot σ (pn (nI k9)) ∨ ¬ zPoss σ (pn (nI k9)) (pn (nI t9)) (nI g9)) = 2 := zE3_2 (fun z => z.elim (fun y => y (zHere_n h1 hk h0)) (fun y => y (zHere_n t1 ht t0))) (Or.inr (by rw [g40]; exact z41))
  have K153 : zV p l e ({ frames := 12, cells := 20, slots := 120, locals := 340 } : Room) s m args below meth c D (zA G s.heap.size) 0 0 (zxZ below D G (fun v G9 => v = some (.int 1) ∧ zLq B x (σ) m0 G9) (fun _ => False) args s ({ frames := 12, cells := 20, slots := 120, locals := 340 } : Room)) G 153 [some (.ref x), some (.int (nI k9)), some (.int (nI t9)), some (.int (nI g9)), some (.int (zb (¬ zNot σ k9))), some (.int (σ 2 t9)), none, none, none] [.int (zb (¬ zNot σ k9 ∧ g9 < 41 ∧ zPoss σ k9 t9 (nI g9)))] := by
    refine zz_istore (pc := 153) C dL_isGrouped_153 (Nat.le_of_ble_eq_true rfl) ?_
    refine zV.less (L' := [some (.ref (x)), some (.int (nI k9)), some (.int (nI t9)), some (.int (nI g9)), some (.int (zb (¬ zNot σ k9))), some (.int (σ 2 t9)), none, some (.int (zb (¬ zNot σ k9 ∧ g9 < 41 ∧ zPoss σ k9 t9 (nI g9)))), none]) ⟨rfl, rfl, rfl, rfl, rfl, rfl, rfl, trivial⟩ ?_
    refine zz_aload_n (pc := 155) C dL_isGrouped_155 rfl ?_
    refine zz_iload_n (pc := 156) C dL_isGrouped_156 rfl ?_
    refine zz_iload_n (pc := 157) C dL_isGrouped_157 rfl ?_
    refine zz_iload_n (pc := 158) C dL_isGrouped_158 rfl ?_
    refine zzx_callSW (pc := 159) C h8 ((c_L_setsGroup l hl D (x9 := nI k9) (t9 := nI t9) (g9 := nI g9) hC hW).imp (fun _ _ z => z.elim (fun y => absurd (hTH.symm.trans y.1) (by decide)) (fun z => z.elim (fun y => absurd (hTH.symm.trans y.1) (by decide)) (fun z => z.elim id (fun z => absurd (hTH.symm.trans z.1) (by decide))))) (fun _ z => z)) gL_isGrouped_L_setsGroup rfl 4 (by decide +kernel) ⟨Nat.le_of_ble_eq_true rfl, Nat.le_of_ble_eq_true rfl⟩ rfl dL_isGrouped_159 rfl (Nat.le_of_ble_eq_true rfl) rfl ⟨Nat.le_of_ble_eq_true rfl, Nat.le_of_ble_eq_true rfl⟩ (fun E hE => hE.elim) ?_
    rintro v G9 ⟨_, rfl, rfl⟩
    refine zz_istore (pc := 162) C dL_isGrouped_162 (Nat.le_of_ble_eq_true rfl) ?_
    refine zV.less (L' := [some (.ref (x)), some (.int (nI k9)), some (.int (nI t9)), some (.int (nI g9)), some (.int (zb (¬ zNot σ k9))), some (.int (σ 2 t9)), none, some (.int (zb (¬ zNot σ k9 ∧ g9 < 41 ∧ zPoss σ k9 t9 (nI g9)))), some (.int (-20))]) ⟨rfl, rfl, rfl, rfl, rfl, rfl, rfl, rfl, trivial⟩ ?_
    refine zz_iload (pc := 164) C dL_isGrouped_164 rfl ?_
    refine zz_iload_n (pc := 166) C dL_isGrouped_166 rfl ?_
    refine zz_bipush (pc := 167) C (v := 40) (by decide) dL_isGrouped_167 ?_
    refine zz_icmp_le (pc := 169) C (tgt := 177) dL_isGrouped_169 (by decide) (fun hc169 => ?_) (fun hc169 => ?_)
    · exact absurd hc169 (by rw [g40]; decide)
    · refine zz_bipush (pc := 172) C (v := -20) (by decide) dL_isGrouped_172 ?_
      refine zz_goto (pc := 174) C (tgt := 189) dL_isGrouped_174 (by decide) ?_
      refine zz_icmp_ne (pc := 189) C (tgt := 221) dL_isGrouped_189 (by decide) (fun hc189 => ?_) (fun hc189 => ?_)
      · exact absurd rfl hc189
      · refine zz_aload_n (pc := 192) C dL_isGrouped_192 rfl ?_
        refine zz_iload_n (pc := 193) C dL_isGrouped_193 rfl ?_
        refine zz_callV (pc := 194) C (q_group l D hC t1 ht t0) gL_isGrouped_X2_group rfl 1 (by decide +kernel) ⟨Nat.le_of_ble_eq_true rfl, Nat.le_of_ble_eq_true rfl⟩ hC.x (ci := 2) rfl rfl rfl dL_isGrouped_194 rfl (Nat.le_of_ble_eq_true rfl) rfl ⟨Nat.le_of_ble_eq_true rfl, Nat.le_of_ble_eq_true rfl⟩ ?_
        rintro v G9 ⟨rfl, rfl⟩
        refine zz_iload_n (pc := 197) C dL_isGrouped_197 rfl ?_
        refine zz_bipush (pc := 198) C (v := 41) (by decide) dL_isGrouped_198 ?_
        refine zz_icmp_ge (pc := 200) C (tgt := 212) dL_isGrouped_200 (by decide) (fun hc200 => ?_) (fun hc200 => ?_)
        · refine zz_iload (pc := 212) C dL_isGrouped_212 rfl ?_
          refine zz_icmp_ne (pc := 214) C (tgt := 221) dL_isGrouped_214 (by decide) (fun hc214 => ?_) (fun hc214 => ?_)
          · exact absurd rfl hc214
          · refine zz_iconst (pc := 217) C (v := 1) (by decide) dL_isGrouped_217 ?_
            refine zz_goto (pc := 218) C (tgt := 222) dL_isGrouped_218 (by decide) ?_
            exact zzx_ret (zz_ireturn (pc := 222) C dL_isGrouped_222 (by first | rfl | exact zb_nar) (Nat.le_of_ble_eq_true rfl) (Nat.le_of_ble_eq_true rfl) ⟨rfl, ⟨tb, ev, A, hC⟩⟩)
        · exact absurd (by rw [g40]; decide) hc200
  have K107 : ¬ zNot σ k9 → (t9 = k9 ∨ σ 1 t9 = nI k9) → zV p l e ({ frames := 12, cells := 20, slots := 120, locals := 340 } : Room) s m args below meth c D (zA G s.heap.size) 0 0 (zxZ below D G (fun v G9 => v = some (.int 1) ∧ zLq B x (σ) m0 G9) (fun _ => False) args s ({ frames := 12, cells := 20, slots := 120, locals := 340 } : Room)) G 107 [some (.ref x), some (.int (nI k9)), some (.int (nI t9)), some (.int (nI g9)), some (.int (zb (¬ zNot σ k9))), some (.int (σ 2 t9)), some (.int (zb (g9 < 41 ∧ zIsIn σ (nI g9) (σ 3 k9) 41))), none, none] [] := by
    intro hcan hpar
    refine zz_aload_n (pc := 107) C dL_isGrouped_107 rfl ?_
    refine zz_iload_n (pc := 108) C dL_isGrouped_108 rfl ?_
    refine zz_callV (pc := 109) C (q_state l D hC t1 ht t0) gL_isGrouped_X2_state rfl 1 (by decide +kernel) ⟨Nat.le_of_ble_eq_true rfl, Nat.le_of_ble_eq_true rfl⟩ hC.x (ci := 2) rfl rfl rfl dL_isGrouped_109 rfl (Nat.le_of_ble_eq_true rfl) rfl ⟨Nat.le_of_ble_eq_true rfl, Nat.le_of_ble_eq_true rfl⟩ ?_
    rintro v G9 ⟨rfl, rfl⟩
    refine zz_iconst (pc := 112) C (v := 3) (by decide) dL_isGrouped_112 ?_
    refine zz_icmp_eq (pc := 113) C (tgt := 152) dL_isGrouped_113 (by decide) (fun hc113 => ?_) (fun hc113 => ?_)
    · refine zz_iconst (pc := 152) C (v := 0) (by decide) dL_isGrouped_152 ?_
      exact zV.less (L' := [some (.ref x), some (.int (nI k9)), some (.int (nI t9)), some (.int (nI g9)), some (.int (zb (¬ zNot σ k9))), some (.int (σ 2 t9)), none, none, none]) ⟨rfl, rfl, rfl, rfl, rfl, rfl, trivial⟩ (zV.topK K153 ((zb_f (fun z => zCon_3.mp hc113 z.2.2.2.1)).symm))
    · refine zz_aload_n (pc := 116) C dL_isGrouped_116 rfl ?_
      refine zz_iload_n (pc := 117) C dL_isGrouped_117 rfl ?_
      refine zz_callV (pc := 118) C (q_session l D hC t1 ht t0) gL_isGrouped_X2_session rfl 1 (by decide +kernel) ⟨Nat.le_of_ble_eq_true rfl, Nat.le_of_ble_eq_true rfl⟩ hC.x (ci := 2) rfl rfl rfl dL_isGrouped_118 rfl (Nat.le_of_ble_eq_true rfl) rfl ⟨Nat.le_of_ble_eq_true rfl, Nat.le_of_ble_eq_true rfl⟩ ?_
      rintro v G9 ⟨rfl, rfl⟩
      refine zz_iload_n (pc := 121) C dL_isGrouped_121 rfl ?_
      refine zz_icmp_eq (pc := 122) C (tgt := 152) dL_isGrouped_122 (by decide) (fun hc122 => ?_) (fun hc122 => ?_)
      · refine zz_iconst (pc := 152) C (v := 0) (by decide) dL_isGrouped_152 ?_
        exact zV.less (L' := [some (.ref x), some (.int (nI k9)), some (.int (nI t9)), some (.int (nI g9)), some (.int (zb (¬ zNot σ k9))), some (.int (σ 2 t9)), none, none, none]) ⟨rfl, rfl, rfl, rfl, rfl, rfl, trivial⟩ (zV.topK K153 ((zb_f (fun z => z.2.2.2.2.1 hc122)).symm))
      · refine zz_aload_n (pc := 125) C dL_isGrouped_125 rfl ?_
        refine zz_iload_n (pc := 126) C dL_isGrouped_126 rfl ?_
        refine zz_callV (pc := 127) C (q_session l D hC t1 ht t0) gL_isGrouped_X2_session rfl 1 (by decide +kernel) ⟨Nat.le_of_ble_eq_true rfl, Nat.le_of_ble_eq_true rfl⟩ hC.x (ci := 2) rfl rfl rfl dL_isGrouped_127 rfl (Nat.le_of_ble_eq_true rfl) rfl ⟨Nat.le_of_ble_eq_true rfl, Nat.le_of_ble_eq_true rfl⟩ ?_
        rintro v G9 ⟨rfl, rfl⟩
        refine zz_aload_n (pc := 130) C dL_isGrouped_130 rfl ?_
        refine zz_iload_n (pc := 131) C dL_isGrouped_131 rfl ?_
        refine zz_callV (pc := 132) C (q_session l D hC h1 hk h0) gL_isGrouped_X2_session rfl 1 (by decide +kernel) ⟨Nat.le_of_ble_eq_true rfl, Nat.le_of_ble_eq_true rfl⟩ hC.x (ci := 2) rfl rfl rfl dL_isGrouped_132 rfl (Nat.le_of_ble_eq_true rfl) rfl ⟨Nat.le_of_ble_eq_true rfl, Nat.le_of_ble_eq_true rfl⟩ ?_
        rintro v G9 ⟨rfl, rfl⟩
        refine zz_icmp_ne (pc := 135) C (tgt := 152) dL_isGrouped_135 (by decide) (fun hc135 => ?_) (fun hc135 => ?_)
        · refine zz_iconst (pc := 152) C (v := 0) (by decide) dL_isGrouped_152 ?_
          exact zV.less (L' := [some (.ref x), some (.int (nI k9)), some (.int (nI t9)), some (.int (nI g9)), some (.int (zb (¬ zNot σ k9))), some (.int (σ 2 t9)), none, none, none]) ⟨rfl, rfl, rfl, rfl, rfl, rfl, trivial⟩ (zV.topK K153 ((zb_f (fun z => hc135 z.2.2.2.2.2.1)).symm))
        · refine zz_iload_n (pc := 138) C dL_isGrouped_138 rfl ?_
          refine zz_iload_n (pc := 139) C dL_isGrouped_139 rfl ?_
          refine zz_icmp_eq (pc := 140) C (tgt := 148) dL_isGrouped_140 (by decide) (fun hc140 => ?_) (fun hc140 => ?_)
          · refine zz_iconst (pc := 148) C (v := 1) (by decide) dL_isGrouped_148 ?_
            refine zz_goto (pc := 149) C (tgt := 153) dL_isGrouped_149 (by decide) ?_
            exact zV.less (L' := [some (.ref x), some (.int (nI k9)), some (.int (nI t9)), some (.int (nI g9)), some (.int (zb (¬ zNot σ k9))), some (.int (σ 2 t9)), none, none, none]) ⟨rfl, rfl, rfl, rfl, rfl, rfl, trivial⟩ (zV.topK K153 ((zb_t ⟨hcan, by have := (nI_eq (a := g9) (b := t9) hg41 (by omega)).mp hc140; omega, hpar, Classical.not_not.mp (fun y => hc113 (zCon_3.mpr y)), hc122, Classical.not_not.mp hc135, Or.inl hc140⟩).symm))
          · refine zz_iload (pc := 143) C dL_isGrouped_143 rfl ?_
            refine zz_if_eq (pc := 145) C (tgt := 152) dL_isGrouped_145 (by decide) (fun hc145 => ?_) (fun hc145 => ?_)
            · refine zz_iconst (pc := 152) C (v := 0) (by decide) dL_isGrouped_152 ?_
              exact zV.less (L' := [some (.ref x), some (.int (nI k9)), some (.int (nI t9)), some (.int (nI g9)), some (.int (zb (¬ zNot σ k9))), some (.int (σ 2 t9)), none, none, none]) ⟨rfl, rfl, rfl, rfl, rfl, rfl, trivial⟩ (zV.topK K153 ((zb_f (fun z => z.2.2.2.2.2.2.elim hc140 (fun y => zb_eq.mp hc145 ⟨z.2.1, y⟩))).symm))
            · refine zz_iconst (pc := 148) C (v := 1) (by decide) dL_isGrouped_148 ?_
              refine zz_goto (pc := 149) C (tgt := 153) dL_isGrouped_149 (by decide) ?_
              exact zV.less (L' := [some (.ref x), some (.int (nI k9)), some (.int (nI t9)), some (.int (nI g9)), some (.int (zb (¬ zNot σ k9))), some (.int (σ 2 t9)), none, none, none]) ⟨rfl, rfl, rfl, rfl, rfl, rfl, trivial⟩ (zV.topK K153 ((zb_t ⟨hcan, (zbp hc145).1, hpar, Classical.not_not.mp (fun y => hc113 (zCon_3.mpr y)), hc122, Classical.not_not.mp hc135, Or.inr (zbp hc145).2⟩).symm))
  have loop : ∀ (n i : Nat), i + n = 41 → 1 ≤ i → zV p l e ({ frames := 12, cells := 20, slots := 120, locals := 340 } : Room) s m args below meth c D (zA G s.heap.size) 0 0 (zxZ below D G (fun v G9 => v = some (.int 1) ∧ zLq B x (σ) m0 G9) (fun _ => False) args s ({ frames := 12, cells := 20, slots := 120, locals := 340 } : Room)) G 33 [some (.ref x), some (.int (nI k9)), some (.int (nI t9)), some (.int (nI g9)), some (.int (zb (¬ zNot σ k9))), some (.int (σ 2 t9)), some (.int (zb (g9 < 41 ∧ zIsIn σ (nI g9) (σ 3 k9) i))), some (.int (nI (i))), none] [] := by
    intro n
    induction n with
    | zero =>
      intro i hi hi1
      have hi41 : i = 41 := by omega
      subst hi41
      refine zz_iload (pc := 33) C dL_isGrouped_33 rfl ?_
      refine zz_bipush (pc := 35) C (v := 41) (by decide) dL_isGrouped_35 ?_
      refine zz_icmp_ge (pc := 37) C (tgt := 88) dL_isGrouped_37 (by decide) (fun hc37 => ?_) (fun hc37 => ?_)
      · refine zz_iload (pc := 88) C dL_isGrouped_88 rfl ?_
        refine zz_if_eq (pc := 90) C (tgt := 152) dL_isGrouped_90 (by decide) (fun hc90 => ?_) (fun hc90 => ?_)
        · refine zz_iconst (pc := 152) C (v := 0) (by decide) dL_isGrouped_152 ?_
          exact zV.less (L' := [some (.ref x), some (.int (nI k9)), some (.int (nI t9)), some (.int (nI g9)), some (.int (zb (¬ zNot σ k9))), some (.int (σ 2 t9)), none, none, none]) ⟨rfl, rfl, rfl, rfl, rfl, rfl, trivial⟩ (zV.topK K153 ((zb_f (fun z => zb_eq.mp hc90 z.1)).symm))
        · refine zz_iload_n (pc := 93) C dL_isGrouped_93 rfl ?_
          refine zz_iload_n (pc := 94) C dL_isGrouped_94 rfl ?_
          refine zz_icmp_eq (pc := 95) C (tgt := 107) dL_isGrouped_95 (by decide) (fun hc95 => ?_) (fun hc95 => ?_)
          · exact zV.less (L' := [some (.ref x), some (.int (nI k9)), some (.int (nI t9)), some (.int (nI g9)), some (.int (zb (¬ zNot σ k9))), some (.int (σ 2 t9)), some (.int (zb (g9 < 41 ∧ zIsIn σ (nI g9) (σ 3 k9) 41))), none, none]) ⟨rfl, rfl, rfl, rfl, rfl, rfl, rfl, trivial⟩ (K107 (zbp hc90) (Or.inl ((nI_eq (by omega) (by omega)).mp hc95)))
          · refine zz_aload_n (pc := 98) C dL_isGrouped_98 rfl ?_
            refine zz_iload_n (pc := 99) C dL_isGrouped_99 rfl ?_
            refine zz_callV (pc := 100) C (q_parent l D hC hW t1 ht t0) gL_isGrouped_X2_parent rfl 1 (by decide +kernel) ⟨Nat.le_of_ble_eq_true rfl, Nat.le_of_ble_eq_true rfl⟩ hC.x (ci := 2) rfl rfl rfl dL_isGrouped_100 rfl (Nat.le_of_ble_eq_true rfl) rfl ⟨Nat.le_of_ble_eq_true rfl, Nat.le_of_ble_eq_true rfl⟩ ?_
            rintro v G9 ⟨rfl, rfl⟩
            refine zz_iload_n (pc := 103) C dL_isGrouped_103 rfl ?_
            refine zz_icmp_ne (pc := 104) C (tgt := 152) dL_isGrouped_104 (by decide) (fun hc104 => ?_) (fun hc104 => ?_)
            · refine zz_iconst (pc := 152) C (v := 0) (by decide) dL_isGrouped_152 ?_
              exact zV.less (L' := [some (.ref x), some (.int (nI k9)), some (.int (nI t9)), some (.int (nI g9)), some (.int (zb (¬ zNot σ k9))), some (.int (σ 2 t9)), none, none, none]) ⟨rfl, rfl, rfl, rfl, rfl, rfl, trivial⟩ (zV.topK K153 ((zb_f (fun z => z.2.2.1.elim (fun y => hc95 (by rw [y])) hc104)).symm))
            · exact zV.less (L' := [some (.ref x), some (.int (nI k9)), some (.int (nI t9)), some (.int (nI g9)), some (.int (zb (¬ zNot σ k9))), some (.int (σ 2 t9)), some (.int (zb (g9 < 41 ∧ zIsIn σ (nI g9) (σ 3 k9) 41))), none, none]) ⟨rfl, rfl, rfl, rfl, rfl, rfl, rfl, trivial⟩ (K107 (zbp hc90) (Or.inr (Classical.not_not.mp hc104)))
      · exact absurd z41c hc37
    | succ n ih =>
      intro i hi hi1
      have K80 : zV p l e ({ frames := 12, cells := 20, slots := 120, locals := 340 } : Room) s m args below meth c D (zA G s.heap.size) 0 0 (zxZ below D G (fun v G9 => v = some (.int 1) ∧ zLq B x (σ) m0 G9) (fun _ => False) args s ({ frames := 12, cells := 20, slots := 120, locals := 340 } : Room)) G 80 [some (.ref x), some (.int (nI k9)), some (.int (nI t9)), some (.int (nI g9)), some (.int (zb (¬ zNot σ k9))), some (.int (σ 2 t9)), some (.int (zb (g9 < 41 ∧ zIsIn σ (nI g9) (σ 3 k9) i))), some (.int (nI (i))), none] [.int (zb (g9 < 41 ∧ zIsIn σ (nI g9) (σ 3 k9) (i + 1)))] := by
        refine zz_istore (pc := 80) C dL_isGrouped_80 (Nat.le_of_ble_eq_true rfl) ?_
        refine zV.less (L' := [some (.ref (x)), some (.int (nI k9)), some (.int (nI t9)), some (.int (nI g9)), some (.int (zb (¬ zNot σ k9))), some (.int (σ 2 t9)), some (.int (zb (g9 < 41 ∧ zIsIn σ (nI g9) (σ 3 k9) (i + 1)))), some (.int (nI (i))), none]) ⟨rfl, rfl, rfl, rfl, rfl, rfl, rfl, rfl, trivial⟩ ?_
        refine zz_iinc (pc := 82) C dL_isGrouped_82 rfl ?_
        refine zV.less (L' := [some (.ref (x)), some (.int (nI k9)), some (.int (nI t9)), some (.int (nI g9)), some (.int (zb (¬ zNot σ k9))), some (.int (σ 2 t9)), some (.int (zb (g9 < 41 ∧ zIsIn σ (nI g9) (σ 3 k9) (i + 1)))), some (.int (nI (i + 1))), none]) ⟨rfl, rfl, rfl, rfl, rfl, rfl, rfl, zvi (z1i i), trivial⟩ ?_
        refine zz_goto (pc := 85) C (tgt := 33) dL_isGrouped_85 (by decide) ?_
        exact ih (i + 1) (by omega) (by omega)
      refine zz_iload (pc := 33) C dL_isGrouped_33 rfl ?_
      refine zz_bipush (pc := 35) C (v := 41) (by decide) dL_isGrouped_35 ?_
      refine zz_icmp_ge (pc := 37) C (tgt := 88) dL_isGrouped_37 (by decide) (fun hc37 => ?_) (fun hc37 => ?_)
      · exact absurd hc37 (z41b (by omega))
      · refine zz_iload (pc := 40) C dL_isGrouped_40 rfl ?_
        refine zz_if_ne (pc := 42) C (tgt := 75) dL_isGrouped_42 (by decide) (fun hc42 => ?_) (fun hc42 => ?_)
        · refine zz_iconst (pc := 75) C (v := 1) (by decide) dL_isGrouped_75 ?_
          refine zz_goto (pc := 76) C (tgt := 80) dL_isGrouped_76 (by decide) ?_
          exact zV.less (L' := [some (.ref x), some (.int (nI k9)), some (.int (nI t9)), some (.int (nI g9)), some (.int (zb (¬ zNot σ k9))), some (.int (σ 2 t9)), some (.int (zb (g9 < 41 ∧ zIsIn σ (nI g9) (σ 3 k9) i))), some (.int (nI (i))), none]) ⟨rfl, rfl, rfl, rfl, rfl, rfl, rfl, rfl, trivial⟩ (zV.topK K80 ((zb_t ⟨(zb_ne.mp hc42).1, fun z => (zb_ne.mp hc42).2 (zAll_succ.mp z).1⟩).symm))
        · refine zz_iload_n (pc := 45) C dL_isGrouped_45 rfl ?_
          refine zz_bipush (pc := 46) C (v := 41) (by decide) dL_isGrouped_46 ?_
          refine zz_icmp_ge (pc := 48) C (tgt := 79) dL_isGrouped_48 (by decide) (fun hc48 => ?_) (fun hc48 => ?_)
          · refine zz_iconst (pc := 79) C (v := 0) (by decide) dL_isGrouped_79 ?_
            exact zV.less (L' := [some (.ref x), some (.int (nI k9)), some (.int (nI t9)), some (.int (nI g9)), some (.int (zb (¬ zNot σ k9))), some (.int (σ 2 t9)), some (.int (zb (g9 < 41 ∧ zIsIn σ (nI g9) (σ 3 k9) i))), some (.int (nI (i))), none]) ⟨rfl, rfl, rfl, rfl, rfl, rfl, rfl, rfl, trivial⟩ (zV.topK K80 ((zb_f (fun z => z41b z.1 hc48)).symm))
          · refine zz_aload_n (pc := 51) C dL_isGrouped_51 rfl ?_
            refine zz_iload (pc := 52) C dL_isGrouped_52 rfl ?_
            refine zz_iload_n (pc := 54) C dL_isGrouped_54 rfl ?_
            refine zz_callS (pc := 55) C (c_L_isMember l D hC (by omega) (by omega)) gL_isGrouped_L_isMember rfl 3 (by decide +kernel) ⟨Nat.le_of_ble_eq_true rfl, Nat.le_of_ble_eq_true rfl⟩ rfl dL_isGrouped_55 rfl (Nat.le_of_ble_eq_true rfl) rfl ⟨Nat.le_of_ble_eq_true rfl, Nat.le_of_ble_eq_true rfl⟩ ?_
            rintro v G9 ⟨rfl, rfl⟩
            refine zz_if_eq (pc := 58) C (tgt := 79) dL_isGrouped_58 (by decide) (fun hc58 => ?_) (fun hc58 => ?_)
            · refine zz_iconst (pc := 79) C (v := 0) (by decide) dL_isGrouped_79 ?_
              exact zV.less (L' := [some (.ref x), some (.int (nI k9)), some (.int (nI t9)), some (.int (nI g9)), some (.int (zb (¬ zNot σ k9))), some (.int (σ 2 t9)), some (.int (zb (g9 < 41 ∧ zIsIn σ (nI g9) (σ 3 k9) i))), some (.int (nI (i))), none]) ⟨rfl, rfl, rfl, rfl, rfl, rfl, rfl, rfl, trivial⟩ (zV.topK K80 ((zb_f (fun z => z.2 (zAll_succ.mpr ⟨Classical.not_not.mp (fun y => hc42 (zb_ne.mpr ⟨z.1, y⟩)), fun y => zb_eq.mp hc58 y.1⟩))).symm))
            · refine zz_aload_n (pc := 61) C dL_isGrouped_61 rfl ?_
              refine zz_iload (pc := 62) C dL_isGrouped_62 rfl ?_
              refine zz_callV (pc := 64) C (q_session l D hC (by omega) (by omega) (zbp hc58).1) gL_isGrouped_X2_session rfl 1 (by decide +kernel) ⟨Nat.le_of_ble_eq_true rfl, Nat.le_of_ble_eq_true rfl⟩ hC.x (ci := 2) rfl rfl rfl dL_isGrouped_64 rfl (Nat.le_of_ble_eq_true rfl) rfl ⟨Nat.le_of_ble_eq_true rfl, Nat.le_of_ble_eq_true rfl⟩ ?_
              rintro v G9 ⟨rfl, rfl⟩
              refine zz_aload_n (pc := 67) C dL_isGrouped_67 rfl ?_
              refine zz_iload_n (pc := 68) C dL_isGrouped_68 rfl ?_
              refine zz_callV (pc := 69) C (q_session l D hC h1 hk h0) gL_isGrouped_X2_session rfl 1 (by decide +kernel) ⟨Nat.le_of_ble_eq_true rfl, Nat.le_of_ble_eq_true rfl⟩ hC.x (ci := 2) rfl rfl rfl dL_isGrouped_69 rfl (Nat.le_of_ble_eq_true rfl) rfl ⟨Nat.le_of_ble_eq_true rfl, Nat.le_of_ble_eq_true rfl⟩ ?_
              rintro v G9 ⟨rfl, rfl⟩
              refine zz_icmp_ne (pc := 72) C (tgt := 79) dL_isGrouped_72 (by decide) (fun hc72 => ?_) (fun hc72 => ?_)
              · refine zz_iconst (pc := 79) C (v := 0) (by decide) dL_isGrouped_79 ?_
                exact zV.less (L' := [some (.ref x), some (.int (nI k9)), some (.int (nI t9)), some (.int (nI g9)), some (.int (zb (¬ zNot σ k9))), some (.int (σ 2 t9)), some (.int (zb (g9 < 41 ∧ zIsIn σ (nI g9) (σ 3 k9) i))), some (.int (nI (i))), none]) ⟨rfl, rfl, rfl, rfl, rfl, rfl, rfl, rfl, trivial⟩ (zV.topK K80 ((zb_f (fun z => z.2 (zAll_succ.mpr ⟨Classical.not_not.mp (fun y => hc42 (zb_ne.mpr ⟨z.1, y⟩)), fun y => hc72 y.2⟩))).symm))
              · refine zz_iconst (pc := 75) C (v := 1) (by decide) dL_isGrouped_75 ?_
                refine zz_goto (pc := 76) C (tgt := 80) dL_isGrouped_76 (by decide) ?_
                exact zV.less (L' := [some (.ref x), some (.int (nI k9)), some (.int (nI t9)), some (.int (nI g9)), some (.int (zb (¬ zNot σ k9))), some (.int (σ 2 t9)), some (.int (zb (g9 < 41 ∧ zIsIn σ (nI g9) (σ 3 k9) i))), some (.int (nI (i))), none]) ⟨rfl, rfl, rfl, rfl, rfl, rfl, rfl, rfl, trivial⟩ (zV.topK K80 ((zb_t ⟨zLt41 hg41 hc48, fun z => (zAll_succ.mp z).2 ⟨zbp hc58, Classical.not_not.mp hc72⟩⟩).symm))
  have hs : ¬ (g9 < 41 ∧ zIsIn σ (nI g9) (σ 3 k9) 1) := fun z => z.2 (fun k hk1 y => y.1.1 (by rw [show k = 0 by omega]; exact hW.z))
  have K18 : zV p l e ({ frames := 12, cells := 20, slots := 120, locals := 340 } : Room) s m args below meth c D (zA G s.heap.size) 0 0 (zxZ below D G (fun v G9 => v = some (.int 1) ∧ zLq B x (σ) m0 G9) (fun _ => False) args s ({ frames := 12, cells := 20, slots := 120, locals := 340 } : Room)) G 18 [some (.ref x), some (.int (nI k9)), some (.int (nI t9)), some (.int (nI g9)), none, none, none, none, none] [.int (zb (¬ zNot σ k9))] := by
    refine zz_istore (pc := 18) C dL_isGrouped_18 (Nat.le_of_ble_eq_true rfl) ?_
    refine zV.less (L' := [some (.ref (x)), some (.int (nI k9)), some (.int (nI t9)), some (.int (nI g9)), some (.int (zb (¬ zNot σ k9))), none, none, none, none]) ⟨rfl, rfl, rfl, rfl, rfl, trivial⟩ ?_
    refine zz_aload_n (pc := 20) C dL_isGrouped_20 rfl ?_
    refine zz_iload_n (pc := 21) C dL_isGrouped_21 rfl ?_
    refine zz_callV (pc := 22) C (q_group l D hC t1 ht t0) gL_isGrouped_X2_group rfl 1 (by decide +kernel) ⟨Nat.le_of_ble_eq_true rfl, Nat.le_of_ble_eq_true rfl⟩ hC.x (ci := 2) rfl rfl rfl dL_isGrouped_22 rfl (Nat.le_of_ble_eq_true rfl) rfl ⟨Nat.le_of_ble_eq_true rfl, Nat.le_of_ble_eq_true rfl⟩ ?_
    rintro v G9 ⟨rfl, rfl⟩
    refine zz_istore (pc := 25) C dL_isGrouped_25 (Nat.le_of_ble_eq_true rfl) ?_
    refine zV.less (L' := [some (.ref (x)), some (.int (nI k9)), some (.int (nI t9)), some (.int (nI g9)), some (.int (zb (¬ zNot σ k9))), some (.int (σ 2 t9)), none, none, none]) ⟨rfl, rfl, rfl, rfl, rfl, rfl, trivial⟩ ?_
    refine zz_iconst (pc := 27) C (v := 0) (by decide) dL_isGrouped_27 ?_
    refine zz_istore (pc := 28) C dL_isGrouped_28 (Nat.le_of_ble_eq_true rfl) ?_
    refine zV.less (L' := [some (.ref (x)), some (.int (nI k9)), some (.int (nI t9)), some (.int (nI g9)), some (.int (zb (¬ zNot σ k9))), some (.int (σ 2 t9)), some (.int (zb (g9 < 41 ∧ zIsIn σ (nI g9) (σ 3 k9) 1))), none, none]) ⟨rfl, rfl, rfl, rfl, rfl, rfl, zvi (zb_f hs).symm, trivial⟩ ?_
    refine zz_iconst (pc := 30) C (v := 1) (by decide) dL_isGrouped_30 ?_
    refine zz_istore (pc := 31) C dL_isGrouped_31 (Nat.le_of_ble_eq_true rfl) ?_
    refine zV.less (L' := [some (.ref (x)), some (.int (nI k9)), some (.int (nI t9)), some (.int (nI g9)), some (.int (zb (¬ zNot σ k9))), some (.int (σ 2 t9)), some (.int (zb (g9 < 41 ∧ zIsIn σ (nI g9) (σ 3 k9) 1))), some (.int (nI 1)), none]) ⟨rfl, rfl, rfl, rfl, rfl, rfl, rfl, rfl, trivial⟩ ?_
    exact loop 40 1 rfl (by omega)
  refine zz_iload_n (pc := 0) C dL_isGrouped_0 rfl ?_
  refine zz_iconst (pc := 1) C (v := 1) (by decide) dL_isGrouped_1 ?_
  refine zz_icmp_le (pc := 2) C (tgt := 17) dL_isGrouped_2 (by decide) (fun hc2 => ?_) (fun hc2 => ?_)
  · refine zz_iconst (pc := 17) C (v := 0) (by decide) dL_isGrouped_17 ?_
    exact zV.less (L' := [some (.ref x), some (.int (nI k9)), some (.int (nI t9)), some (.int (nI g9)), none, none, none, none, none]) ⟨rfl, rfl, rfl, rfl, trivial⟩ (zV.topK K18 ((zb_f (fun z => z (Or.inl (zLe1 h1 hk hc2)))).symm))
  · refine zz_aload_n (pc := 5) C dL_isGrouped_5 rfl ?_
    refine zz_iload_n (pc := 6) C dL_isGrouped_6 rfl ?_
    refine zz_callV (pc := 7) C (q_state l D hC h1 hk h0) gL_isGrouped_X2_state rfl 1 (by decide +kernel) ⟨Nat.le_of_ble_eq_true rfl, Nat.le_of_ble_eq_true rfl⟩ hC.x (ci := 2) rfl rfl rfl dL_isGrouped_7 rfl (Nat.le_of_ble_eq_true rfl) rfl ⟨Nat.le_of_ble_eq_true rfl, Nat.le_of_ble_eq_true rfl⟩ ?_
    rintro v G9 ⟨rfl, rfl⟩
    refine zz_if_ne (pc := 10) C (tgt := 17) dL_isGrouped_10 (by decide) (fun hc10 => ?_) (fun hc10 => ?_)
    · refine zz_iconst (pc := 17) C (v := 0) (by decide) dL_isGrouped_17 ?_
      exact zV.less (L' := [some (.ref x), some (.int (nI k9)), some (.int (nI t9)), some (.int (nI g9)), none, none, none, none, none]) ⟨rfl, rfl, rfl, rfl, trivial⟩ (zV.topK K18 ((zb_f (fun z => z (Or.inr (fun y => hc10 (zCon_0.mpr y))))).symm))
    · refine zz_iconst (pc := 13) C (v := 1) (by decide) dL_isGrouped_13 ?_
      refine zz_goto (pc := 14) C (tgt := 18) dL_isGrouped_14 (by decide) ?_
      exact zV.less (L' := [some (.ref x), some (.int (nI k9)), some (.int (nI t9)), some (.int (nI g9)), none, none, none, none, none]) ⟨rfl, rfl, rfl, rfl, trivial⟩ (zV.topK K18 ((zb_t (show ¬ zNot σ k9 from fun z => z.elim (fun y => hc2 (by rw [y]; decide)) (fun y => y (zCon_0.mp (Classical.not_not.mp hc10))))).symm))
