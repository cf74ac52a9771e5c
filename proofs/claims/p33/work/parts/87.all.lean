set_option maxHeartbeats 4000000 in
set_option maxRecDepth 100000 in
theorem c_L_areAll (l : Launch) (D : va_G) {B G : zG} {x tb ev : Nat} {A : Nat → Nat} {σ : zS} {m0 : Nat} (hC : zCl B x tb ev A σ [] 0 m0 G)  (hI : zIv 0 σ []) : zMet D l yL_areAll wsL_areAll ({ frames := 6, cells := 0, slots := 0, locals := 200 } : Room) [.ref x] G (fun v G9 => v = some (.int 1) ∧ G9 = G) := by
  refine zMet_of (cc := cL_areAll) (maxL := 4) (ret := (some .boolean)) (by decide) rfl (Nat.le_of_ble_eq_true rfl) ?_
  intro p e s m args below meth c C hmn
  have hW := hI.wf
  have K132 : ∀ w : Int32, zV p l e ({ frames := 6, cells := 0, slots := 0, locals := 200 } : Room) s m args below meth c D (zA G s.heap.size) 0 0 (zZ below D G (fun v G9 => v = some (.int 1) ∧ G9 = G) args s ({ frames := 6, cells := 0, slots := 0, locals := 200 } : Room)) G 132 [some (.ref x), some (.int (nI (zCnt σ 41))), some (.int (w)), none] [.int 1] := by
    intro w
    refine zz_istore_n (pc := 132) C dL_areAll_132 (Nat.le_of_ble_eq_true rfl) ?_
    refine zV.less (L' := [some (.ref (x)), some (.int (nI (zCnt σ 41))), some (.int (w)), some (.int (1))]) ⟨rfl, rfl, rfl, rfl, trivial⟩ ?_
    refine zz_iload_n (pc := 133) C dL_areAll_133 rfl ?_
    refine zz_if_eq (pc := 134) C (tgt := 209) dL_areAll_134 (by decide) (fun hc134 => ?_) (fun hc134 => ?_)
    · exact absurd hc134 (by decide)
    · refine zz_aload_n (pc := 137) C dL_areAll_137 rfl ?_
      refine zz_callV (pc := 138) C (c_clProcs l D hC) gL_areAll_X2_processes rfl 0 (by decide +kernel) ⟨Nat.le_of_ble_eq_true rfl, Nat.le_of_ble_eq_true rfl⟩ hC.x (ci := 2) rfl rfl rfl dL_areAll_138 rfl (Nat.le_of_ble_eq_true rfl) rfl ⟨Nat.le_of_ble_eq_true rfl, Nat.le_of_ble_eq_true rfl⟩ ?_
      rintro v G9 ⟨rfl, rfl⟩
      refine zz_iload_n (pc := 141) C dL_areAll_141 rfl ?_
      refine zz_icmp_ne (pc := 142) C (tgt := 209) dL_areAll_142 (by decide) (fun hc142 => ?_) (fun hc142 => ?_)
      · exact absurd rfl hc142
      · refine zz_aload_n (pc := 145) C dL_areAll_145 rfl ?_
        refine zz_iconst (pc := 146) C (v := 1) (by decide) dL_areAll_146 ?_
        refine zz_callV (pc := 147) C (q_state l D hC (by decide) (by decide) hW.x0 (k := 1)) gL_areAll_X2_state rfl 1 (by decide +kernel) ⟨Nat.le_of_ble_eq_true rfl, Nat.le_of_ble_eq_true rfl⟩ hC.x (ci := 2) rfl rfl rfl dL_areAll_147 rfl (Nat.le_of_ble_eq_true rfl) rfl ⟨Nat.le_of_ble_eq_true rfl, Nat.le_of_ble_eq_true rfl⟩ ?_
        rintro v G9 ⟨rfl, rfl⟩
        refine zz_if_ne (pc := 150) C (tgt := 209) dL_areAll_150 (by decide) (fun hc150 => ?_) (fun hc150 => ?_)
        · exact absurd (zCon_0.mpr ⟨hW.2.2.2.2.1.2.2.2.2.1, hW.2.2.2.2.1.2.2.2.2.2.1, hW.2.2.2.2.1.2.2.2.2.2.2.1⟩) hc150
        · refine zz_aload_n (pc := 153) C dL_areAll_153 rfl ?_
          refine zz_iconst (pc := 154) C (v := 1) (by decide) dL_areAll_154 ?_
          refine zz_callV (pc := 155) C (q_parent l D hC hW (by decide) (by decide) hW.x0 (k := 1)) gL_areAll_X2_parent rfl 1 (by decide +kernel) ⟨Nat.le_of_ble_eq_true rfl, Nat.le_of_ble_eq_true rfl⟩ hC.x (ci := 2) rfl rfl rfl dL_areAll_155 rfl (Nat.le_of_ble_eq_true rfl) rfl ⟨Nat.le_of_ble_eq_true rfl, Nat.le_of_ble_eq_true rfl⟩ ?_
          rintro v G9 ⟨rfl, rfl⟩
          refine zz_iconst (pc := 158) C (v := -1) (by decide) dL_areAll_158 ?_
          refine zz_icmp_ne (pc := 159) C (tgt := 209) dL_areAll_159 (by decide) (fun hc159 => ?_) (fun hc159 => ?_)
          · exact absurd hW.2.2.2.2.1.2.1 hc159
          · refine zz_aload_n (pc := 162) C dL_areAll_162 rfl ?_
            refine zz_iconst (pc := 163) C (v := 1) (by decide) dL_areAll_163 ?_
            refine zz_callV (pc := 164) C (q_group l D hC (by decide) (by decide) hW.x0 (k := 1)) gL_areAll_X2_group rfl 1 (by decide +kernel) ⟨Nat.le_of_ble_eq_true rfl, Nat.le_of_ble_eq_true rfl⟩ hC.x (ci := 2) rfl rfl rfl dL_areAll_164 rfl (Nat.le_of_ble_eq_true rfl) rfl ⟨Nat.le_of_ble_eq_true rfl, Nat.le_of_ble_eq_true rfl⟩ ?_
            rintro v G9 ⟨rfl, rfl⟩
            refine zz_iconst (pc := 167) C (v := 1) (by decide) dL_areAll_167 ?_
            refine zz_icmp_ne (pc := 168) C (tgt := 209) dL_areAll_168 (by decide) (fun hc168 => ?_) (fun hc168 => ?_)
            · exact absurd hW.2.2.2.2.1.2.2.1 hc168
            · refine zz_aload_n (pc := 171) C dL_areAll_171 rfl ?_
              refine zz_iconst (pc := 172) C (v := 1) (by decide) dL_areAll_172 ?_
              refine zz_callV (pc := 173) C (q_session l D hC (by decide) (by decide) hW.x0 (k := 1)) gL_areAll_X2_session rfl 1 (by decide +kernel) ⟨Nat.le_of_ble_eq_true rfl, Nat.le_of_ble_eq_true rfl⟩ hC.x (ci := 2) rfl rfl rfl dL_areAll_173 rfl (Nat.le_of_ble_eq_true rfl) rfl ⟨Nat.le_of_ble_eq_true rfl, Nat.le_of_ble_eq_true rfl⟩ ?_
              rintro v G9 ⟨rfl, rfl⟩
              refine zz_iconst (pc := 176) C (v := 1) (by decide) dL_areAll_176 ?_
              refine zz_icmp_ne (pc := 177) C (tgt := 209) dL_areAll_177 (by decide) (fun hc177 => ?_) (fun hc177 => ?_)
              · exact absurd hW.2.2.2.2.1.2.2.2.1 hc177
              · refine zz_aload_n (pc := 180) C dL_areAll_180 rfl ?_
                refine zz_iconst (pc := 181) C (v := 1) (by decide) dL_areAll_181 ?_
                refine zz_callV (pc := 182) C (q_pending l D hC (by decide) (by decide) hW.x0 (k := 1)) gL_areAll_X2_pending rfl 1 (by decide +kernel) ⟨Nat.le_of_ble_eq_true rfl, Nat.le_of_ble_eq_true rfl⟩ hC.x (ci := 2) rfl rfl rfl dL_areAll_182 rfl (Nat.le_of_ble_eq_true rfl) rfl ⟨Nat.le_of_ble_eq_true rfl, Nat.le_of_ble_eq_true rfl⟩ ?_
                rintro v G9 ⟨rfl, rfl⟩
                refine zz_if_ne (pc := 185) C (tgt := 209) dL_areAll_185 (by decide) (fun hc185 => ?_) (fun hc185 => ?_)
                · exact absurd hI.2.2.2.2.2.2.2.1 hc185
                · refine zz_aload_n (pc := 188) C dL_areAll_188 rfl ?_
                  refine zz_iconst (pc := 189) C (v := 1) (by decide) dL_areAll_189 ?_
                  refine zz_callV (pc := 190) C (q_caught l D hC (by decide) (by decide) hW.x0 (k := 1)) gL_areAll_X2_caught rfl 1 (by decide +kernel) ⟨Nat.le_of_ble_eq_true rfl, Nat.le_of_ble_eq_true rfl⟩ hC.x (ci := 2) rfl rfl rfl dL_areAll_190 rfl (Nat.le_of_ble_eq_true rfl) rfl ⟨Nat.le_of_ble_eq_true rfl, Nat.le_of_ble_eq_true rfl⟩ ?_
                  rintro v G9 ⟨rfl, rfl⟩
                  refine zz_if_ne (pc := 193) C (tgt := 209) dL_areAll_193 (by decide) (fun hc193 => ?_) (fun hc193 => ?_)
                  · exact absurd hI.2.2.2.2.2.2.2.2.1 hc193
                  · refine zz_aload_n (pc := 196) C dL_areAll_196 rfl ?_
                    refine zz_iconst (pc := 197) C (v := 1) (by decide) dL_areAll_197 ?_
                    refine zz_callV (pc := 198) C (q_waitResult l D hC (by decide) (by decide) hW.x0 (k := 1)) gL_areAll_X2_waitResult rfl 1 (by decide +kernel) ⟨Nat.le_of_ble_eq_true rfl, Nat.le_of_ble_eq_true rfl⟩ hC.x (ci := 2) rfl rfl rfl dL_areAll_198 rfl (Nat.le_of_ble_eq_true rfl) rfl ⟨Nat.le_of_ble_eq_true rfl, Nat.le_of_ble_eq_true rfl⟩ ?_
                    rintro v G9 ⟨rfl, rfl⟩
                    refine zz_iconst (pc := 201) C (v := -1) (by decide) dL_areAll_201 ?_
                    refine zz_icmp_ne (pc := 202) C (tgt := 209) dL_areAll_202 (by decide) (fun hc202 => ?_) (fun hc202 => ?_)
                    · exact absurd hI.2.2.2.2.2.2.2.2.2 hc202
                    · refine zz_iconst (pc := 205) C (v := 1) (by decide) dL_areAll_205 ?_
                      refine zz_goto (pc := 206) C (tgt := 210) dL_areAll_206 (by decide) ?_
                      exact zz_ireturn (pc := 210) C dL_areAll_210 (by first | rfl | exact zb_nar) (Nat.le_of_ble_eq_true rfl) (Nat.le_of_ble_eq_true rfl) ⟨rfl, rfl⟩
  have K68 : zV p l e ({ frames := 6, cells := 0, slots := 0, locals := 200 } : Room) s m args below meth c D (zA G s.heap.size) 0 0 (zZ below D G (fun v G9 => v = some (.int 1) ∧ G9 = G) args s ({ frames := 6, cells := 0, slots := 0, locals := 200 } : Room)) G 68 [some (.ref x), some (.int (nI (zCnt σ 41))), some (.int (nI 41)), none] [] := by
    rcases hI.2.2.2.2.2.2.1 with hl | ⟨t, t1, t2, t3, t4, t5⟩
    · skip
      refine zz_aload_n (pc := 68) C dL_areAll_68 rfl ?_
      refine zz_callV (pc := 69) C (c_X2_terminalSession l D hC) gL_areAll_X2_terminalSession rfl 0 (by decide +kernel) ⟨Nat.le_of_ble_eq_true rfl, Nat.le_of_ble_eq_true rfl⟩ hC.x (ci := 2) rfl rfl rfl dL_areAll_69 rfl (Nat.le_of_ble_eq_true rfl) rfl ⟨Nat.le_of_ble_eq_true rfl, Nat.le_of_ble_eq_true rfl⟩ ?_
      rintro v G9 ⟨rfl, rfl⟩
      refine zz_istore_n (pc := 72) C dL_areAll_72 (Nat.le_of_ble_eq_true rfl) ?_
      refine zV.less (L' := [some (.ref (x)), some (.int (nI (zCnt σ 41))), some (.int (σ 21 0)), none]) ⟨rfl, rfl, rfl, trivial⟩ ?_
      refine zz_iload_n (pc := 73) C dL_areAll_73 rfl ?_
      refine zz_iconst (pc := 74) C (v := -1) (by decide) dL_areAll_74 ?_
      refine zz_icmp_ne (pc := 75) C (tgt := 94) dL_areAll_75 (by decide) (fun hc75 => ?_) (fun hc75 => ?_)
      · exact absurd hl.1 hc75
      · refine zz_aload_n (pc := 78) C dL_areAll_78 rfl ?_
        refine zz_callV (pc := 79) C (c_X2_foreground l D hC) gL_areAll_X2_foreground rfl 0 (by decide +kernel) ⟨Nat.le_of_ble_eq_true rfl, Nat.le_of_ble_eq_true rfl⟩ hC.x (ci := 2) rfl rfl rfl dL_areAll_79 rfl (Nat.le_of_ble_eq_true rfl) rfl ⟨Nat.le_of_ble_eq_true rfl, Nat.le_of_ble_eq_true rfl⟩ ?_
        rintro v G9 ⟨rfl, rfl⟩
        refine zz_iconst (pc := 82) C (v := -1) (by decide) dL_areAll_82 ?_
        refine zz_icmp_ne (pc := 83) C (tgt := 90) dL_areAll_83 (by decide) (fun hc83 => ?_) (fun hc83 => ?_)
        · exact absurd hl.2 hc83
        · refine zz_iconst (pc := 86) C (v := 1) (by decide) dL_areAll_86 ?_
          refine zz_goto (pc := 87) C (tgt := 132) dL_areAll_87 (by decide) ?_
          exact zV.less (L' := [some (.ref x), some (.int (nI (zCnt σ 41))), some (.int (σ 21 0)), none]) ⟨rfl, rfl, rfl, trivial⟩ (K132 _)
    · obtain ⟨t6, t7⟩ := hW.in t2
      refine zz_aload_n (pc := 68) C dL_areAll_68 rfl ?_
      refine zz_callV (pc := 69) C (c_X2_terminalSession l D hC) gL_areAll_X2_terminalSession rfl 0 (by decide +kernel) ⟨Nat.le_of_ble_eq_true rfl, Nat.le_of_ble_eq_true rfl⟩ hC.x (ci := 2) rfl rfl rfl dL_areAll_69 rfl (Nat.le_of_ble_eq_true rfl) rfl ⟨Nat.le_of_ble_eq_true rfl, Nat.le_of_ble_eq_true rfl⟩ ?_
      rintro v G9 ⟨rfl, rfl⟩
      rw [t1]
      refine zz_istore_n (pc := 72) C dL_areAll_72 (Nat.le_of_ble_eq_true rfl) ?_
      refine zV.less (L' := [some (.ref (x)), some (.int (nI (zCnt σ 41))), some (.int (nI t)), none]) ⟨rfl, rfl, rfl, trivial⟩ ?_
      refine zz_iload_n (pc := 73) C dL_areAll_73 rfl ?_
      refine zz_iconst (pc := 74) C (v := -1) (by decide) dL_areAll_74 ?_
      refine zz_icmp_ne (pc := 75) C (tgt := 94) dL_areAll_75 (by decide) (fun hc75 => ?_) (fun hc75 => ?_)
      · refine zz_aload_n (pc := 94) C dL_areAll_94 rfl ?_
        refine zz_iload_n (pc := 95) C dL_areAll_95 rfl ?_
        refine zz_callV (pc := 96) C (q_exists l D hC t6 t7) gL_areAll_X2_exists rfl 1 (by decide +kernel) ⟨Nat.le_of_ble_eq_true rfl, Nat.le_of_ble_eq_true rfl⟩ hC.x (ci := 2) rfl rfl rfl dL_areAll_96 rfl (Nat.le_of_ble_eq_true rfl) rfl ⟨Nat.le_of_ble_eq_true rfl, Nat.le_of_ble_eq_true rfl⟩ ?_
        rintro v G9 ⟨rfl, rfl⟩
        refine zz_if_eq (pc := 99) C (tgt := 131) dL_areAll_99 (by decide) (fun hc99 => ?_) (fun hc99 => ?_)
        · exact False.elim (zb_eq.mp hc99 t2)
        · refine zz_aload_n (pc := 102) C dL_areAll_102 rfl ?_
          refine zz_iload_n (pc := 103) C dL_areAll_103 rfl ?_
          refine zz_callV (pc := 104) C (q_session l D hC t6 t7 t2) gL_areAll_X2_session rfl 1 (by decide +kernel) ⟨Nat.le_of_ble_eq_true rfl, Nat.le_of_ble_eq_true rfl⟩ hC.x (ci := 2) rfl rfl rfl dL_areAll_104 rfl (Nat.le_of_ble_eq_true rfl) rfl ⟨Nat.le_of_ble_eq_true rfl, Nat.le_of_ble_eq_true rfl⟩ ?_
          rintro v G9 ⟨rfl, rfl⟩
          refine zz_iload_n (pc := 107) C dL_areAll_107 rfl ?_
          refine zz_icmp_ne (pc := 108) C (tgt := 131) dL_areAll_108 (by decide) (fun hc108 => ?_) (fun hc108 => ?_)
          · exact absurd t3 hc108
          · refine zz_aload_n (pc := 111) C dL_areAll_111 rfl ?_
            refine zz_iload_n (pc := 112) C dL_areAll_112 rfl ?_
            refine zz_callV (pc := 113) C (q_state l D hC t6 t7 t2) gL_areAll_X2_state rfl 1 (by decide +kernel) ⟨Nat.le_of_ble_eq_true rfl, Nat.le_of_ble_eq_true rfl⟩ hC.x (ci := 2) rfl rfl rfl dL_areAll_113 rfl (Nat.le_of_ble_eq_true rfl) rfl ⟨Nat.le_of_ble_eq_true rfl, Nat.le_of_ble_eq_true rfl⟩ ?_
            rintro v G9 ⟨rfl, rfl⟩
            refine zz_iconst (pc := 116) C (v := 3) (by decide) dL_areAll_116 ?_
            refine zz_icmp_eq (pc := 117) C (tgt := 131) dL_areAll_117 (by decide) (fun hc117 => ?_) (fun hc117 => ?_)
            · exact absurd t4 (zCon_3.mp hc117)
            · refine zz_aload_n (pc := 120) C dL_areAll_120 rfl ?_
              refine zz_callV (pc := 121) C (c_X2_foreground l D hC) gL_areAll_X2_foreground rfl 0 (by decide +kernel) ⟨Nat.le_of_ble_eq_true rfl, Nat.le_of_ble_eq_true rfl⟩ hC.x (ci := 2) rfl rfl rfl dL_areAll_121 rfl (Nat.le_of_ble_eq_true rfl) rfl ⟨Nat.le_of_ble_eq_true rfl, Nat.le_of_ble_eq_true rfl⟩ ?_
              rintro v G9 ⟨rfl, rfl⟩
              refine zz_if_le (pc := 124) C (tgt := 131) dL_areAll_124 (by decide) (fun hc124 => ?_) (fun hc124 => ?_)
              · exact absurd hc124 (Int32.not_le.mpr t5)
              · refine zz_iconst (pc := 127) C (v := 1) (by decide) dL_areAll_127 ?_
                refine zz_goto (pc := 128) C (tgt := 132) dL_areAll_128 (by decide) ?_
                exact zV.less (L' := [some (.ref x), some (.int (nI (zCnt σ 41))), some (.int (nI t)), none]) ⟨rfl, rfl, rfl, trivial⟩ (K132 _)
      · exact False.elim (hc75 (znm1 t7))
  have loop : ∀ (n i : Nat), i + n = 41 → 1 ≤ i → zV p l e ({ frames := 6, cells := 0, slots := 0, locals := 200 } : Room) s m args below meth c D (zA G s.heap.size) 0 0 (zZ below D G (fun v G9 => v = some (.int 1) ∧ G9 = G) args s ({ frames := 6, cells := 0, slots := 0, locals := 200 } : Room)) G 4 [some (.ref x), some (.int (nI (zCnt σ (i)))), some (.int (nI (i))), none] [] := by
    intro n
    induction n with
    | zero =>
      intro i hi hi1
      have hi41 : i = 41 := by omega
      subst hi41
      refine zz_iload_n (pc := 4) C dL_areAll_4 rfl ?_
      refine zz_bipush (pc := 5) C (v := 41) (by decide) dL_areAll_5 ?_
      refine zz_icmp_ge (pc := 7) C (tgt := 68) dL_areAll_7 (by decide) (fun hc7 => ?_) (fun hc7 => ?_)
      · exact zV.less (L' := [some (.ref x), some (.int (nI (zCnt σ 41))), some (.int (nI 41)), none]) ⟨rfl, rfl, rfl, trivial⟩ K68
      · exact absurd z41c hc7
    | succ n ih =>
      intro i hi hi1
      have K47 : zV p l e ({ frames := 6, cells := 0, slots := 0, locals := 200 } : Room) s m args below meth c D (zA G s.heap.size) 0 0 (zZ below D G (fun v G9 => v = some (.int 1) ∧ G9 = G) args s ({ frames := 6, cells := 0, slots := 0, locals := 200 } : Room)) G 47 [some (.ref x), some (.int (nI (zCnt σ (i + 1)))), some (.int (nI i)), none] [] := by
        refine zz_aload_n (pc := 47) C dL_areAll_47 rfl ?_
        refine zz_iload_n (pc := 48) C dL_areAll_48 rfl ?_
        refine zz_callV (pc := 49) C (q_isOrphaned l D hC hW.has (by omega) (by omega)) gL_areAll_X2_isOrphaned rfl 1 (by decide +kernel) ⟨Nat.le_of_ble_eq_true rfl, Nat.le_of_ble_eq_true rfl⟩ hC.x (ci := 2) rfl rfl rfl dL_areAll_49 rfl (Nat.le_of_ble_eq_true rfl) rfl ⟨Nat.le_of_ble_eq_true rfl, Nat.le_of_ble_eq_true rfl⟩ ?_
        rintro v G9 ⟨rfl, rfl⟩
        refine zz_aload_n (pc := 52) C dL_areAll_52 rfl ?_
        refine zz_iload_n (pc := 53) C dL_areAll_53 rfl ?_
        refine zz_callS (pc := 54) C (c_L_isOrphaned l D hC hW) gL_areAll_L_isOrphaned rfl 2 (by decide +kernel) ⟨Nat.le_of_ble_eq_true rfl, Nat.le_of_ble_eq_true rfl⟩ rfl dL_areAll_54 rfl (Nat.le_of_ble_eq_true rfl) rfl ⟨Nat.le_of_ble_eq_true rfl, Nat.le_of_ble_eq_true rfl⟩ ?_
        rintro v G9 ⟨rfl, rfl⟩
        refine zz_icmp_eq (pc := 57) C (tgt := 62) dL_areAll_57 (by decide) (fun hc57 => ?_) (fun hc57 => ?_)
        · refine zz_iinc (pc := 62) C dL_areAll_62 rfl ?_
          refine zV.less (L' := [some (.ref (x)), some (.int (nI (zCnt σ (i + 1)))), some (.int (nI (i + 1))), none]) ⟨rfl, rfl, zvi (z1i i), trivial⟩ ?_
          refine zz_goto (pc := 65) C (tgt := 4) dL_areAll_65 (by decide) ?_
          exact zV.less (L' := [some (.ref x), some (.int (nI (zCnt σ (i + 1)))), some (.int (nI (i + 1))), none]) ⟨rfl, rfl, rfl, trivial⟩ (ih (i + 1) (by omega) (by omega))
        · exact absurd rfl hc57
      have K25 : zV p l e ({ frames := 6, cells := 0, slots := 0, locals := 200 } : Room) s m args below meth c D (zA G s.heap.size) 0 0 (zZ below D G (fun v G9 => v = some (.int 1) ∧ G9 = G) args s ({ frames := 6, cells := 0, slots := 0, locals := 200 } : Room)) G 25 [some (.ref x), some (.int (nI (zCnt σ i))), some (.int (nI i)), none] [.int (nI (zCnt σ (i + 1)))] := by
        refine zz_istore_n (pc := 25) C dL_areAll_25 (Nat.le_of_ble_eq_true rfl) ?_
        refine zV.less (L' := [some (.ref (x)), some (.int (nI (zCnt σ (i + 1)))), some (.int (nI (i))), none]) ⟨rfl, rfl, rfl, trivial⟩ ?_
        refine zz_iload_n (pc := 26) C dL_areAll_26 rfl ?_
        refine zz_iconst (pc := 27) C (v := 1) (by decide) dL_areAll_27 ?_
        refine zz_icmp_le (pc := 28) C (tgt := 47) dL_areAll_28 (by decide) (fun hc28 => ?_) (fun hc28 => ?_)
        · exact zV.less (L' := [some (.ref x), some (.int (nI (zCnt σ (i + 1)))), some (.int (nI i)), none]) ⟨rfl, rfl, rfl, trivial⟩ K47
        · have hi2 : 2 ≤ i := by
            by_cases h : i = 1
            · rw [h] at hc28; exact absurd (show nI 1 ≤ (1 : Int32) by decide) hc28
            · omega
          refine zz_aload_n (pc := 31) C dL_areAll_31 rfl ?_
          refine zz_iload_n (pc := 32) C dL_areAll_32 rfl ?_
          refine zz_callV (pc := 33) C (q_exists l D hC (by omega) (by omega)) gL_areAll_X2_exists rfl 1 (by decide +kernel) ⟨Nat.le_of_ble_eq_true rfl, Nat.le_of_ble_eq_true rfl⟩ hC.x (ci := 2) rfl rfl rfl dL_areAll_33 rfl (Nat.le_of_ble_eq_true rfl) rfl ⟨Nat.le_of_ble_eq_true rfl, Nat.le_of_ble_eq_true rfl⟩ ?_
          rintro v G9 ⟨rfl, rfl⟩
          refine zz_if_eq (pc := 36) C (tgt := 47) dL_areAll_36 (by decide) (fun hc36 => ?_) (fun hc36 => ?_)
          · exact zV.less (L' := [some (.ref x), some (.int (nI (zCnt σ (i + 1)))), some (.int (nI i)), none]) ⟨rfl, rfl, rfl, trivial⟩ K47
          · refine zz_aload_n (pc := 39) C dL_areAll_39 rfl ?_
            refine zz_iload_n (pc := 40) C dL_areAll_40 rfl ?_
            refine zz_callS (pc := 41) C (c_L_isSound l D hC hI (by omega) (by omega) (zbp hc36)) gL_areAll_L_isSound rfl 2 (by decide +kernel) ⟨Nat.le_of_ble_eq_true rfl, Nat.le_of_ble_eq_true rfl⟩ rfl dL_areAll_41 rfl (Nat.le_of_ble_eq_true rfl) rfl ⟨Nat.le_of_ble_eq_true rfl, Nat.le_of_ble_eq_true rfl⟩ ?_
            rintro v G9 ⟨rfl, rfl⟩
            refine zz_if_eq (pc := 44) C (tgt := 60) dL_areAll_44 (by decide) (fun hc44 => ?_) (fun hc44 => ?_)
            · exact absurd hc44 (by decide)
            · exact zV.less (L' := [some (.ref x), some (.int (nI (zCnt σ (i + 1)))), some (.int (nI i)), none]) ⟨rfl, rfl, rfl, trivial⟩ K47
      refine zz_iload_n (pc := 4) C dL_areAll_4 rfl ?_
      refine zz_bipush (pc := 5) C (v := 41) (by decide) dL_areAll_5 ?_
      refine zz_icmp_ge (pc := 7) C (tgt := 68) dL_areAll_7 (by decide) (fun hc7 => ?_) (fun hc7 => ?_)
      · exact absurd hc7 (z41b (by omega))
      · refine zz_iload_n (pc := 10) C dL_areAll_10 rfl ?_
        refine zz_aload_n (pc := 11) C dL_areAll_11 rfl ?_
        refine zz_iload_n (pc := 12) C dL_areAll_12 rfl ?_
        refine zz_callV (pc := 13) C (q_exists l D hC (by omega) (by omega)) gL_areAll_X2_exists rfl 1 (by decide +kernel) ⟨Nat.le_of_ble_eq_true rfl, Nat.le_of_ble_eq_true rfl⟩ hC.x (ci := 2) rfl rfl rfl dL_areAll_13 rfl (Nat.le_of_ble_eq_true rfl) rfl ⟨Nat.le_of_ble_eq_true rfl, Nat.le_of_ble_eq_true rfl⟩ ?_
        rintro v G9 ⟨rfl, rfl⟩
        refine zz_if_eq (pc := 16) C (tgt := 23) dL_areAll_16 (by decide) (fun hc16 => ?_) (fun hc16 => ?_)
        · refine zz_iconst (pc := 23) C (v := 0) (by decide) dL_areAll_23 ?_
          refine zz_iadd (pc := 24) C dL_areAll_24 ?_
          first
            | exact zV.less (L' := [some (.ref x), some (.int (nI (zCnt σ i))), some (.int (nI i)), none]) ⟨rfl, rfl, rfl, trivial⟩ (zV.top (by rw [zCnt_no (fun z => zb_eq.mp hc16 z), z0a]) K25)
            | exact zV.less (L' := [some (.ref x), some (.int (nI (zCnt σ i))), some (.int (nI i)), none]) ⟨rfl, rfl, rfl, trivial⟩ (zV.top (by rw [zCnt_yes (zbp hc16)]; exact z1a _) K25)
        · refine zz_iconst (pc := 19) C (v := 1) (by decide) dL_areAll_19 ?_
          refine zz_goto (pc := 20) C (tgt := 24) dL_areAll_20 (by decide) ?_
          refine zz_iadd (pc := 24) C dL_areAll_24 ?_
          first
            | exact zV.less (L' := [some (.ref x), some (.int (nI (zCnt σ i))), some (.int (nI i)), none]) ⟨rfl, rfl, rfl, trivial⟩ (zV.top (by rw [zCnt_no (fun z => zb_eq.mp hc16 z), z0a]) K25)
            | exact zV.less (L' := [some (.ref x), some (.int (nI (zCnt σ i))), some (.int (nI i)), none]) ⟨rfl, rfl, rfl, trivial⟩ (zV.top (by rw [zCnt_yes (zbp hc16)]; exact z1a _) K25)
  have h01 : zCnt σ 1 = 0 := by
    rw [zCnt_no (fun z => z hW.z)]
    rfl
  refine zz_iconst (pc := 0) C (v := 0) (by decide) dL_areAll_0 ?_
  refine zz_istore_n (pc := 1) C dL_areAll_1 (Nat.le_of_ble_eq_true rfl) ?_
  refine zV.less (L' := [some (.ref (x)), some (.int (0)), none, none]) ⟨rfl, rfl, trivial⟩ ?_
  refine zz_iconst (pc := 2) C (v := 1) (by decide) dL_areAll_2 ?_
  refine zz_istore_n (pc := 3) C dL_areAll_3 (Nat.le_of_ble_eq_true rfl) ?_
  refine zV.less (L' := [some (.ref (x)), some (.int (0)), some (.int (1)), none]) ⟨rfl, rfl, rfl, trivial⟩ ?_
  exact zV.less (L' := [some (.ref x), some (.int (nI (zCnt σ (1)))), some (.int (nI (1))), none]) ⟨rfl, zvi (by rw [h01]; rfl), rfl, trivial⟩ (loop 40 1 rfl (by omega))
