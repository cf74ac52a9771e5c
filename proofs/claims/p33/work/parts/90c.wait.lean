set_option maxHeartbeats 4000000 in
set_option maxRecDepth 100000 in
theorem c_L_isWaited_vf (l : Launch) (hl : l.stackTraces = false) (D : va_G) {B G : zG} {x tb ev : Nat} {A : Nat → Nat} {σ : zS} {m0 : Nat} (hC : zCl B x tb ev A σ [] 0 m0 G) {k9 : Nat} {f9 : Int32} {b9 : Nat} (hI : zIv 0 σ []) (h1 : 1 ≤ k9) (hk : k9 < 41) (h0 : σ 0 k9 ≠ 0) (hf : f9 = 0 ∨ f9 = 1) (hb : b9 = 0 ∨ b9 = 41) : zxMet D l yL_isWaited wsL_isWaited ({ frames := 12, cells := 20, slots := 120, locals := 340 } : Room) [.ref x, .int (nI k9), .int (nI b9), .int f9] G (fun v G9 => v = some (.int 1) ∧ zLq B x σ m0 G9) (fun _ => False) := by
  refine zxMet_of (cc := cL_isWaited) (maxL := 10) (ret := (some .boolean)) (by decide) rfl (Nat.le_of_ble_eq_true rfl) ?_
  intro p e s m args below meth c C hnx h8
  have hW := hI.wf
  have hb42 : b9 < 42 := by omega
  have hTH : zE3 (¬ zHere σ (nI k9)) (nI b9 < 1 ∨ (40 : Int32) < nI b9) (zNot σ (pn (nI k9))) = 2 := zE3_2 (fun z => z (zHere_n h1 hk h0)) (by rcases hb with rfl | rfl; exact Or.inl (by decide); exact Or.inr (by decide))
  refine t_L_isWaited l D hC C hW h1 hk h0 (fun w hw => ?_)
  refine zz_iload_n (pc := 120) C dL_isWaited_120 rfl ?_
  refine zz_if_ge (pc := 121) C (tgt := 133) dL_isWaited_121 (by decide) (fun hc121 => ?_) (fun hc121 => ?_)
  · refine zz_aload_n (pc := 133) C dL_isWaited_133 rfl ?_
    refine zz_iload_n (pc := 134) C dL_isWaited_134 rfl ?_
    refine zz_iload_n (pc := 135) C dL_isWaited_135 rfl ?_
    refine zz_iload_n (pc := 136) C dL_isWaited_136 rfl ?_
    refine zzx_callSW (pc := 137) C h8 ((c_L_waitsFor l hl D (x9 := nI k9) (c9 := nI b9) (f9 := f9) hC hW hf).imp (fun _ _ z => z.elim (fun y => absurd (hTH.symm.trans y.1) (by decide)) (fun z => z.elim (fun y => absurd (hTH.symm.trans y.1) (by decide)) (fun z => z.elim id (fun z => absurd (hTH.symm.trans z.1) (by decide))))) (fun _ z => z)) gL_isWaited_L_waitsFor rfl 4 (by decide +kernel) ⟨Nat.le_of_ble_eq_true rfl, Nat.le_of_ble_eq_true rfl⟩ rfl dL_isWaited_137 rfl (Nat.le_of_ble_eq_true rfl) rfl ⟨Nat.le_of_ble_eq_true rfl, Nat.le_of_ble_eq_true rfl⟩ (fun E hE => hE.elim) ?_
    rintro v G9 ⟨_, rfl, rfl⟩
    refine zz_istore (pc := 140) C dL_isWaited_140 (Nat.le_of_ble_eq_true rfl) ?_
    refine zV.less (L' := [some (.ref (x)), some (.int (nI k9)), some (.int ((nI b9))), some (.int (f9)), some (.int (zb (¬ zNot σ k9))), some (.int (w)), some (.int (zb (zHd σ k9 (nI b9) (1)))), some (.int (-20)), none, none]) ⟨rfl, rfl, rfl, rfl, rfl, rfl, rfl, rfl, trivial⟩ ?_
    refine zz_iload (pc := 142) C dL_isWaited_142 rfl ?_
    refine zz_if_eq (pc := 144) C (tgt := 157) dL_isWaited_144 (by decide) (fun hc144 => ?_) (fun hc144 => ?_)
    · refine zz_iload (pc := 157) C dL_isWaited_157 rfl ?_
      refine zz_iload_n (pc := 159) C dL_isWaited_159 rfl ?_
      refine zz_bipush (pc := 160) C (v := 40) (by decide) dL_isWaited_160 ?_
      refine zz_icmp_gt (pc := 162) C (tgt := 169) dL_isWaited_162 (by decide) (fun hc162 => ?_) (fun hc162 => ?_)
      · refine zz_bipush (pc := 169) C (v := -20) (by decide) dL_isWaited_169 ?_
        refine zz_goto (pc := 171) C (tgt := 176) dL_isWaited_171 (by decide) ?_
        refine zz_icmp_ne (pc := 176) C (tgt := 183) dL_isWaited_176 (by decide) (fun hc176 => ?_) (fun hc176 => ?_)
        · exact absurd rfl hc176
        · refine zz_iconst (pc := 179) C (v := 1) (by decide) dL_isWaited_179 ?_
          refine zz_goto (pc := 180) C (tgt := 184) dL_isWaited_180 (by decide) ?_
          exact zzx_ret (zz_ireturn (pc := 184) C dL_isWaited_184 (by first | rfl | exact zb_nar) (Nat.le_of_ble_eq_true rfl) (Nat.le_of_ble_eq_true rfl) ⟨rfl, ⟨tb, ev, A, hC⟩⟩)
      · refine zz_iload_n (pc := 165) C dL_isWaited_165 rfl ?_
        refine zz_if_ne (pc := 166) C (tgt := 174) dL_isWaited_166 (by decide) (fun hc166 => ?_) (fun hc166 => ?_)
        · exact absurd (zb0_41 hb hc162) hc166
        · refine zz_bipush (pc := 169) C (v := -20) (by decide) dL_isWaited_169 ?_
          refine zz_goto (pc := 171) C (tgt := 176) dL_isWaited_171 (by decide) ?_
          refine zz_icmp_ne (pc := 176) C (tgt := 183) dL_isWaited_176 (by decide) (fun hc176 => ?_) (fun hc176 => ?_)
          · exact absurd rfl hc176
          · refine zz_iconst (pc := 179) C (v := 1) (by decide) dL_isWaited_179 ?_
            refine zz_goto (pc := 180) C (tgt := 184) dL_isWaited_180 (by decide) ?_
            exact zzx_ret (zz_ireturn (pc := 184) C dL_isWaited_184 (by first | rfl | exact zb_nar) (Nat.le_of_ble_eq_true rfl) (Nat.le_of_ble_eq_true rfl) ⟨rfl, ⟨tb, ev, A, hC⟩⟩)
    · refine zz_iload_n (pc := 147) C dL_isWaited_147 rfl ?_
      refine zz_bipush (pc := 148) C (v := 40) (by decide) dL_isWaited_148 ?_
      refine zz_icmp_gt (pc := 150) C (tgt := 157) dL_isWaited_150 (by decide) (fun hc150 => ?_) (fun hc150 => ?_)
      · refine zz_iload (pc := 157) C dL_isWaited_157 rfl ?_
        refine zz_iload_n (pc := 159) C dL_isWaited_159 rfl ?_
        refine zz_bipush (pc := 160) C (v := 40) (by decide) dL_isWaited_160 ?_
        refine zz_icmp_gt (pc := 162) C (tgt := 169) dL_isWaited_162 (by decide) (fun hc162 => ?_) (fun hc162 => ?_)
        · refine zz_bipush (pc := 169) C (v := -20) (by decide) dL_isWaited_169 ?_
          refine zz_goto (pc := 171) C (tgt := 176) dL_isWaited_171 (by decide) ?_
          refine zz_icmp_ne (pc := 176) C (tgt := 183) dL_isWaited_176 (by decide) (fun hc176 => ?_) (fun hc176 => ?_)
          · exact absurd rfl hc176
          · refine zz_iconst (pc := 179) C (v := 1) (by decide) dL_isWaited_179 ?_
            refine zz_goto (pc := 180) C (tgt := 184) dL_isWaited_180 (by decide) ?_
            exact zzx_ret (zz_ireturn (pc := 184) C dL_isWaited_184 (by first | rfl | exact zb_nar) (Nat.le_of_ble_eq_true rfl) (Nat.le_of_ble_eq_true rfl) ⟨rfl, ⟨tb, ev, A, hC⟩⟩)
        · refine zz_iload_n (pc := 165) C dL_isWaited_165 rfl ?_
          refine zz_if_ne (pc := 166) C (tgt := 174) dL_isWaited_166 (by decide) (fun hc166 => ?_) (fun hc166 => ?_)
          · exact absurd (zb0_41 hb hc162) hc166
          · refine zz_bipush (pc := 169) C (v := -20) (by decide) dL_isWaited_169 ?_
            refine zz_goto (pc := 171) C (tgt := 176) dL_isWaited_171 (by decide) ?_
            refine zz_icmp_ne (pc := 176) C (tgt := 183) dL_isWaited_176 (by decide) (fun hc176 => ?_) (fun hc176 => ?_)
            · exact absurd rfl hc176
            · refine zz_iconst (pc := 179) C (v := 1) (by decide) dL_isWaited_179 ?_
              refine zz_goto (pc := 180) C (tgt := 184) dL_isWaited_180 (by decide) ?_
              exact zzx_ret (zz_ireturn (pc := 184) C dL_isWaited_184 (by first | rfl | exact zb_nar) (Nat.le_of_ble_eq_true rfl) (Nat.le_of_ble_eq_true rfl) ⟨rfl, ⟨tb, ev, A, hC⟩⟩)
      · refine zz_iload_n (pc := 153) C dL_isWaited_153 rfl ?_
        refine zz_if_ne (pc := 154) C (tgt := 185) dL_isWaited_154 (by decide) (fun hc154 => ?_) (fun hc154 => ?_)
        · exact absurd (zb0_41 hb hc150) hc154
        · refine zz_iload (pc := 157) C dL_isWaited_157 rfl ?_
          refine zz_iload_n (pc := 159) C dL_isWaited_159 rfl ?_
          refine zz_bipush (pc := 160) C (v := 40) (by decide) dL_isWaited_160 ?_
          refine zz_icmp_gt (pc := 162) C (tgt := 169) dL_isWaited_162 (by decide) (fun hc162 => ?_) (fun hc162 => ?_)
          · refine zz_bipush (pc := 169) C (v := -20) (by decide) dL_isWaited_169 ?_
            refine zz_goto (pc := 171) C (tgt := 176) dL_isWaited_171 (by decide) ?_
            refine zz_icmp_ne (pc := 176) C (tgt := 183) dL_isWaited_176 (by decide) (fun hc176 => ?_) (fun hc176 => ?_)
            · exact absurd rfl hc176
            · refine zz_iconst (pc := 179) C (v := 1) (by decide) dL_isWaited_179 ?_
              refine zz_goto (pc := 180) C (tgt := 184) dL_isWaited_180 (by decide) ?_
              exact zzx_ret (zz_ireturn (pc := 184) C dL_isWaited_184 (by first | rfl | exact zb_nar) (Nat.le_of_ble_eq_true rfl) (Nat.le_of_ble_eq_true rfl) ⟨rfl, ⟨tb, ev, A, hC⟩⟩)
          · refine zz_iload_n (pc := 165) C dL_isWaited_165 rfl ?_
            refine zz_if_ne (pc := 166) C (tgt := 174) dL_isWaited_166 (by decide) (fun hc166 => ?_) (fun hc166 => ?_)
            · exact absurd (zb0_41 hb hc162) hc166
            · refine zz_bipush (pc := 169) C (v := -20) (by decide) dL_isWaited_169 ?_
              refine zz_goto (pc := 171) C (tgt := 176) dL_isWaited_171 (by decide) ?_
              refine zz_icmp_ne (pc := 176) C (tgt := 183) dL_isWaited_176 (by decide) (fun hc176 => ?_) (fun hc176 => ?_)
              · exact absurd rfl hc176
              · refine zz_iconst (pc := 179) C (v := 1) (by decide) dL_isWaited_179 ?_
                refine zz_goto (pc := 180) C (tgt := 184) dL_isWaited_180 (by decide) ?_
                exact zzx_ret (zz_ireturn (pc := 184) C dL_isWaited_184 (by first | rfl | exact zb_nar) (Nat.le_of_ble_eq_true rfl) (Nat.le_of_ble_eq_true rfl) ⟨rfl, ⟨tb, ev, A, hC⟩⟩)
  · exact absurd (zNNn b9 hb42) hc121
set_option maxHeartbeats 4000000 in
set_option maxRecDepth 100000 in
theorem c_L_isWaited_nf (l : Launch) (hl : l.stackTraces = false) (D : va_G) {B G : zG} {x tb ev : Nat} {A : Nat → Nat} {σ : zS} {m0 : Nat} (hC : zCl B x tb ev A σ [] 0 m0 G) {k9 : Nat} {f9 : Int32} {b9 : Nat} (hI : zIv 0 σ []) (h1 : 1 ≤ k9) (hk : k9 < 41) (h0 : σ 0 k9 ≠ 0) (hf : f9 = 0 ∨ f9 = 1) (hn : zNot σ k9) (b1 : 1 ≤ b9) (b41 : b9 < 41) : zxMet D l yL_isWaited wsL_isWaited ({ frames := 12, cells := 20, slots := 120, locals := 340 } : Room) [.ref x, .int (nI k9), .int (nI b9), .int f9] G (fun v G9 => v = some (.int 1) ∧ zLq B x σ m0 G9) (fun _ => False) := by
  refine zxMet_of (cc := cL_isWaited) (maxL := 10) (ret := (some .boolean)) (by decide) rfl (Nat.le_of_ble_eq_true rfl) ?_
  intro p e s m args below meth c C hnx h8
  have hW := hI.wf
  have hb42 : b9 < 42 := by omega
  have hTH : zE3 (¬ zHere σ (nI k9)) (nI b9 < 1 ∨ (40 : Int32) < nI b9) (zNot σ (pn (nI k9))) = 3 := zE3_3 (fun z => z (zHere_n h1 hk h0)) (zNum_n b1 b41) (by rw [pnn hk]; exact hn)
  refine t_L_isWaited l D hC C hW h1 hk h0 (fun w hw => ?_)
  refine zz_iload_n (pc := 120) C dL_isWaited_120 rfl ?_
  refine zz_if_ge (pc := 121) C (tgt := 133) dL_isWaited_121 (by decide) (fun hc121 => ?_) (fun hc121 => ?_)
  · refine zz_aload_n (pc := 133) C dL_isWaited_133 rfl ?_
    refine zz_iload_n (pc := 134) C dL_isWaited_134 rfl ?_
    refine zz_iload_n (pc := 135) C dL_isWaited_135 rfl ?_
    refine zz_iload_n (pc := 136) C dL_isWaited_136 rfl ?_
    refine zzx_callSW (pc := 137) C h8 ((c_L_waitsFor l hl D (x9 := nI k9) (c9 := nI b9) (f9 := f9) hC hW hf).imp (fun _ _ z => z.elim (fun y => absurd (hTH.symm.trans y.1) (by decide)) (fun z => z.elim (fun y => absurd (hTH.symm.trans y.1) (by decide)) (fun z => z.elim (fun y => absurd (hTH.symm.trans y.1) (by decide)) (fun z => z)))) (fun _ z => z)) gL_isWaited_L_waitsFor rfl 4 (by decide +kernel) ⟨Nat.le_of_ble_eq_true rfl, Nat.le_of_ble_eq_true rfl⟩ rfl dL_isWaited_137 rfl (Nat.le_of_ble_eq_true rfl) rfl ⟨Nat.le_of_ble_eq_true rfl, Nat.le_of_ble_eq_true rfl⟩ (fun E hE => hE.elim) ?_
    rintro v G9 ⟨_, rfl, rfl⟩
    refine zz_istore (pc := 140) C dL_isWaited_140 (Nat.le_of_ble_eq_true rfl) ?_
    refine zV.less (L' := [some (.ref (x)), some (.int (nI k9)), some (.int ((nI b9))), some (.int (f9)), some (.int (zb (¬ zNot σ k9))), some (.int (w)), some (.int (zb (zHd σ k9 (nI b9) (1)))), some (.int (-10)), none, none]) ⟨rfl, rfl, rfl, rfl, rfl, rfl, rfl, rfl, trivial⟩ ?_
    refine zz_iload (pc := 142) C dL_isWaited_142 rfl ?_
    refine zz_if_eq (pc := 144) C (tgt := 157) dL_isWaited_144 (by decide) (fun hc144 => ?_) (fun hc144 => ?_)
    · refine zz_iload (pc := 157) C dL_isWaited_157 rfl ?_
      refine zz_iload_n (pc := 159) C dL_isWaited_159 rfl ?_
      refine zz_bipush (pc := 160) C (v := 40) (by decide) dL_isWaited_160 ?_
      refine zz_icmp_gt (pc := 162) C (tgt := 169) dL_isWaited_162 (by decide) (fun hc162 => ?_) (fun hc162 => ?_)
      · exact False.elim (z40 (by omega) hc162)
      · refine zz_iload_n (pc := 165) C dL_isWaited_165 rfl ?_
        refine zz_if_ne (pc := 166) C (tgt := 174) dL_isWaited_166 (by decide) (fun hc166 => ?_) (fun hc166 => ?_)
        · refine zz_bipush (pc := 174) C (v := -10) (by decide) dL_isWaited_174 ?_
          refine zz_icmp_ne (pc := 176) C (tgt := 183) dL_isWaited_176 (by decide) (fun hc176 => ?_) (fun hc176 => ?_)
          · exact absurd rfl hc176
          · refine zz_iconst (pc := 179) C (v := 1) (by decide) dL_isWaited_179 ?_
            refine zz_goto (pc := 180) C (tgt := 184) dL_isWaited_180 (by decide) ?_
            exact zzx_ret (zz_ireturn (pc := 184) C dL_isWaited_184 (by first | rfl | exact zb_nar) (Nat.le_of_ble_eq_true rfl) (Nat.le_of_ble_eq_true rfl) ⟨rfl, ⟨tb, ev, A, hC⟩⟩)
        · exact absurd (znI0 b1 hb42) hc166
    · exact absurd hn (zbp hc144)
  · exact absurd (zNNn b9 hb42) hc121
set_option maxHeartbeats 4000000 in
set_option maxRecDepth 100000 in
theorem c_L_isWaited_Af (l : Launch) (hl : l.stackTraces = false) (D : va_G) {B G : zG} {x tb ev : Nat} {A : Nat → Nat} {σ : zS} {m0 : Nat} (hC : zCl B x tb ev A σ [] 0 m0 G) {k9 : Nat} {f9 : Int32} {b9 : Nat} {τ : zS} (hI : zIv 0 σ []) (h1 : 1 ≤ k9) (hk : k9 < 41) (h0 : σ 0 k9 ≠ 0) (hf : f9 = 0 ∨ f9 = 1) (hn : ¬ zNot σ k9) (b1 : 1 ≤ b9) (b41 : b9 < 41) (hh : ¬ zHd σ k9 (nI b9) 1) (hq : zCheck (zWset σ k9 (nI b9) f9) k9 = τ) (hq2 : zEnds (zWset σ k9 (nI b9) f9) k9 4 (-1) (-1) = τ) : zxMet D l yL_isWaited wsL_isWaited ({ frames := 12, cells := 20, slots := 120, locals := 340 } : Room) [.ref x, .int (nI k9), .int (nI b9), .int f9] G (fun v G9 => v = some (.int 1) ∧ zLq B x τ m0 G9) (fun _ => False) := by
  refine zxMet_of (cc := cL_isWaited) (maxL := 10) (ret := (some .boolean)) (by decide) rfl (Nat.le_of_ble_eq_true rfl) ?_
  intro p e s m args below meth c C hnx h8
  have hW := hI.wf
  have hb42 : b9 < 42 := by omega
  have hTH : zE3 (¬ zHere σ (nI k9)) (nI b9 < 1 ∨ (40 : Int32) < nI b9) (zNot σ (pn (nI k9))) = 0 := zE3_0 (fun z => z (zHere_n h1 hk h0)) (zNum_n b1 b41) (by rw [pnn hk]; exact hn)
  have hr : zRunN σ k9 := Classical.not_not.mp (fun z => hn (Or.inr z))
  have hI1 : zIv 0 (zCheck (zWset σ k9 (nI b9) f9) k9) [] := hI.waits h0 hr.1 (fun z => hn (Or.inl z)) hf
  rw [hq] at hI1
  have hW1 := hI1.wf
  have q6 : τ 6 k9 = 0 := by rw [← hq2]; simp [zEnds, zu]
  have q0 : τ 0 k9 ≠ 0 := by rw [← hq2]; exact h0
  have q4 : τ 4 k9 = 0 := by rw [← hq2]; exact hr.1
  have q5 : τ 5 k9 = 0 := by rw [← hq2]; exact hr.2.1
  have q18 : τ 18 k9 = 4 := by rw [← hq2]; simp [zEnds, zu]
  have qc : zCon τ k9 = 0 := zCon_0.mpr ⟨q4, q5, q6⟩
  have ht : (if zb ((zCheck (zWset σ (pn (nI k9)) (nI b9) f9) (pn (nI k9))) 6 (pn (nI k9)) = 0) = 0 then (0 : Int32) else 1) = 1 := by
    rw [pnn hk, hq]
    rw [if_neg (zb_ne.mpr q6)]
  refine t_L_isWaited l D hC C hW h1 hk h0 (fun w hw => ?_)
  refine zz_iload_n (pc := 120) C dL_isWaited_120 rfl ?_
  refine zz_if_ge (pc := 121) C (tgt := 133) dL_isWaited_121 (by decide) (fun hc121 => ?_) (fun hc121 => ?_)
  · refine zz_aload_n (pc := 133) C dL_isWaited_133 rfl ?_
    refine zz_iload_n (pc := 134) C dL_isWaited_134 rfl ?_
    refine zz_iload_n (pc := 135) C dL_isWaited_135 rfl ?_
    refine zz_iload_n (pc := 136) C dL_isWaited_136 rfl ?_
    refine zzx_callSW (pc := 137) C h8 ((c_L_waitsFor l hl D (x9 := nI k9) (c9 := nI b9) (f9 := f9) hC hW hf).imp (fun _ _ z => z.elim id (fun z => z.elim (fun y => absurd (hTH.symm.trans y.1) (by decide)) (fun z => z.elim (fun y => absurd (hTH.symm.trans y.1) (by decide)) (fun z => absurd (hTH.symm.trans z.1) (by decide))))) (fun _ z => z)) gL_isWaited_L_waitsFor rfl 4 (by decide +kernel) ⟨Nat.le_of_ble_eq_true rfl, Nat.le_of_ble_eq_true rfl⟩ rfl dL_isWaited_137 rfl (Nat.le_of_ble_eq_true rfl) rfl ⟨Nat.le_of_ble_eq_true rfl, Nat.le_of_ble_eq_true rfl⟩ (fun E hE => hE.elim) ?_
    rintro v G9 ⟨_, rfl, hC1⟩
    rw [ht]
    rw [pnn hk, hq] at hC1
    refine zz_istore (pc := 140) C dL_isWaited_140 (Nat.le_of_ble_eq_true rfl) ?_
    refine zV.less (L' := [some (.ref (x)), some (.int (nI k9)), some (.int ((nI b9))), some (.int (f9)), some (.int (zb (¬ zNot σ k9))), some (.int (w)), some (.int (zb (zHd σ k9 (nI b9) (1)))), some (.int (1)), none, none]) ⟨rfl, rfl, rfl, rfl, rfl, rfl, rfl, rfl, trivial⟩ ?_
    refine zz_iload (pc := 142) C dL_isWaited_142 rfl ?_
    refine zz_if_eq (pc := 144) C (tgt := 157) dL_isWaited_144 (by decide) (fun hc144 => ?_) (fun hc144 => ?_)
    · exact False.elim (zb_eq.mp hc144 hn)
    · refine zz_iload_n (pc := 147) C dL_isWaited_147 rfl ?_
      refine zz_bipush (pc := 148) C (v := 40) (by decide) dL_isWaited_148 ?_
      refine zz_icmp_gt (pc := 150) C (tgt := 157) dL_isWaited_150 (by decide) (fun hc150 => ?_) (fun hc150 => ?_)
      · exact False.elim (z40 (by omega) hc150)
      · refine zz_iload_n (pc := 153) C dL_isWaited_153 rfl ?_
        refine zz_if_ne (pc := 154) C (tgt := 185) dL_isWaited_154 (by decide) (fun hc154 => ?_) (fun hc154 => ?_)
        · refine zz_iload (pc := 185) C dL_isWaited_185 rfl ?_
          refine zz_if_ne (pc := 187) C (tgt := 219) dL_isWaited_187 (by decide) (fun hc187 => ?_) (fun hc187 => ?_)
          · exact absurd (zb_ne.mp hc187) hh
          · refine zz_iload (pc := 190) C dL_isWaited_190 rfl ?_
            refine zz_iconst (pc := 192) C (v := 1) (by decide) dL_isWaited_192 ?_
            refine zz_icmp_ne (pc := 193) C (tgt := 217) dL_isWaited_193 (by decide) (fun hc193 => ?_) (fun hc193 => ?_)
            · exact absurd rfl hc193
            · refine zz_aload_n (pc := 196) C dL_isWaited_196 rfl ?_
              refine zz_iload_n (pc := 197) C dL_isWaited_197 rfl ?_
              refine zz_callV (pc := 198) C (q_waitResult l D hC1 h1 hk q0 (k := k9)) gL_isWaited_X2_waitResult rfl 1 (by decide +kernel) ⟨Nat.le_of_ble_eq_true rfl, Nat.le_of_ble_eq_true rfl⟩ hC1.x (ci := 2) rfl rfl rfl dL_isWaited_198 rfl (Nat.le_of_ble_eq_true rfl) rfl ⟨Nat.le_of_ble_eq_true rfl, Nat.le_of_ble_eq_true rfl⟩ ?_
              rintro v G9 ⟨rfl, rfl⟩
              refine zz_iconst (pc := 201) C (v := 4) (by decide) dL_isWaited_201 ?_
              refine zz_icmp_ne (pc := 202) C (tgt := 217) dL_isWaited_202 (by decide) (fun hc202 => ?_) (fun hc202 => ?_)
              · exact absurd q18 hc202
              · refine zz_aload_n (pc := 205) C dL_isWaited_205 rfl ?_
                refine zz_iload_n (pc := 206) C dL_isWaited_206 rfl ?_
                refine zz_callV (pc := 207) C (q_state l D hC1 h1 hk q0 (k := k9)) gL_isWaited_X2_state rfl 1 (by decide +kernel) ⟨Nat.le_of_ble_eq_true rfl, Nat.le_of_ble_eq_true rfl⟩ hC1.x (ci := 2) rfl rfl rfl dL_isWaited_207 rfl (Nat.le_of_ble_eq_true rfl) rfl ⟨Nat.le_of_ble_eq_true rfl, Nat.le_of_ble_eq_true rfl⟩ ?_
                rintro v G9 ⟨rfl, rfl⟩
                refine zz_if_ne (pc := 210) C (tgt := 217) dL_isWaited_210 (by decide) (fun hc210 => ?_) (fun hc210 => ?_)
                · exact absurd qc hc210
                · refine zz_iconst (pc := 213) C (v := 1) (by decide) dL_isWaited_213 ?_
                  refine zz_goto (pc := 214) C (tgt := 218) dL_isWaited_214 (by decide) ?_
                  exact zzx_ret (zz_ireturn (pc := 218) C dL_isWaited_218 (by first | rfl | exact zb_nar) (Nat.le_of_ble_eq_true rfl) (Nat.le_of_ble_eq_true rfl) ⟨rfl, ⟨tb, ev, A, hC1⟩⟩)
        · exact absurd (znI0 b1 hb42) hc154
  · exact absurd (zNNn b9 hb42) hc121
set_option maxHeartbeats 4000000 in
set_option maxRecDepth 100000 in
theorem c_L_isWaited_Bf (l : Launch) (hl : l.stackTraces = false) (D : va_G) {B G : zG} {x tb ev : Nat} {A : Nat → Nat} {σ : zS} {m0 : Nat} (hC : zCl B x tb ev A σ [] 0 m0 G) {k9 : Nat} {f9 : Int32} {b9 : Nat} {τ : zS} (hI : zIv 0 σ []) (h1 : 1 ≤ k9) (hk : k9 < 41) (h0 : σ 0 k9 ≠ 0) (hf : f9 = 0 ∨ f9 = 1) (hn : ¬ zNot σ k9) (b1 : 1 ≤ b9) (b41 : b9 < 41) (hh : zHd σ k9 (nI b9) 1) (hz : ∀ j, j < 41 → ¬ zKz σ k9 (nI b9) j) (hq : zCheck (zWset σ k9 (nI b9) f9) k9 = τ) (hq2 : zWset σ k9 (nI b9) f9 = τ) : zxMet D l yL_isWaited wsL_isWaited ({ frames := 12, cells := 20, slots := 120, locals := 340 } : Room) [.ref x, .int (nI k9), .int (nI b9), .int f9] G (fun v G9 => v = some (.int 1) ∧ zLq B x τ m0 G9) (fun _ => False) := by
  refine zxMet_of (cc := cL_isWaited) (maxL := 10) (ret := (some .boolean)) (by decide) rfl (Nat.le_of_ble_eq_true rfl) ?_
  intro p e s m args below meth c C hnx h8
  have hW := hI.wf
  have hb42 : b9 < 42 := by omega
  have hTH : zE3 (¬ zHere σ (nI k9)) (nI b9 < 1 ∨ (40 : Int32) < nI b9) (zNot σ (pn (nI k9))) = 0 := zE3_0 (fun z => z (zHere_n h1 hk h0)) (zNum_n b1 b41) (by rw [pnn hk]; exact hn)
  have hr : zRunN σ k9 := Classical.not_not.mp (fun z => hn (Or.inr z))
  have hI1 : zIv 0 (zCheck (zWset σ k9 (nI b9) f9) k9) [] := hI.waits h0 hr.1 (fun z => hn (Or.inl z)) hf
  rw [hq] at hI1
  have hW1 := hI1.wf
  have q6 : τ 6 k9 = 1 := by rw [← hq2]; simp [zu]
  have q0 : τ 0 k9 ≠ 0 := by rw [← hq2]; exact h0
  have q4 : τ 4 k9 = 0 := by rw [← hq2]; exact hr.1
  have q5 : τ 5 k9 = 0 := by rw [← hq2]; exact hr.2.1
  have qc : zCon τ k9 = 1 := zCon_1.mpr ⟨q4, q5, by rw [q6]; decide⟩
  have ht : (if zb ((zCheck (zWset σ (pn (nI k9)) (nI b9) f9) (pn (nI k9))) 6 (pn (nI k9)) = 0) = 0 then (0 : Int32) else 1) = 0 := by
    rw [pnn hk, hq]
    rw [if_pos (zb_f (by rw [q6]; decide))]
  refine t_L_isWaited l D hC C hW h1 hk h0 (fun w hw => ?_)
  refine zz_iload_n (pc := 120) C dL_isWaited_120 rfl ?_
  refine zz_if_ge (pc := 121) C (tgt := 133) dL_isWaited_121 (by decide) (fun hc121 => ?_) (fun hc121 => ?_)
  · refine zz_aload_n (pc := 133) C dL_isWaited_133 rfl ?_
    refine zz_iload_n (pc := 134) C dL_isWaited_134 rfl ?_
    refine zz_iload_n (pc := 135) C dL_isWaited_135 rfl ?_
    refine zz_iload_n (pc := 136) C dL_isWaited_136 rfl ?_
    refine zzx_callSW (pc := 137) C h8 ((c_L_waitsFor l hl D (x9 := nI k9) (c9 := nI b9) (f9 := f9) hC hW hf).imp (fun _ _ z => z.elim id (fun z => z.elim (fun y => absurd (hTH.symm.trans y.1) (by decide)) (fun z => z.elim (fun y => absurd (hTH.symm.trans y.1) (by decide)) (fun z => absurd (hTH.symm.trans z.1) (by decide))))) (fun _ z => z)) gL_isWaited_L_waitsFor rfl 4 (by decide +kernel) ⟨Nat.le_of_ble_eq_true rfl, Nat.le_of_ble_eq_true rfl⟩ rfl dL_isWaited_137 rfl (Nat.le_of_ble_eq_true rfl) rfl ⟨Nat.le_of_ble_eq_true rfl, Nat.le_of_ble_eq_true rfl⟩ (fun E hE => hE.elim) ?_
    rintro v G9 ⟨_, rfl, hC1⟩
    rw [ht]
    rw [pnn hk, hq] at hC1
    refine zz_istore (pc := 140) C dL_isWaited_140 (Nat.le_of_ble_eq_true rfl) ?_
    refine zV.less (L' := [some (.ref (x)), some (.int (nI k9)), some (.int ((nI b9))), some (.int (f9)), some (.int (zb (¬ zNot σ k9))), some (.int (w)), some (.int (zb (zHd σ k9 (nI b9) (1)))), some (.int (0)), none, none]) ⟨rfl, rfl, rfl, rfl, rfl, rfl, rfl, rfl, trivial⟩ ?_
    refine zz_iload (pc := 142) C dL_isWaited_142 rfl ?_
    refine zz_if_eq (pc := 144) C (tgt := 157) dL_isWaited_144 (by decide) (fun hc144 => ?_) (fun hc144 => ?_)
    · exact False.elim (zb_eq.mp hc144 hn)
    · refine zz_iload_n (pc := 147) C dL_isWaited_147 rfl ?_
      refine zz_bipush (pc := 148) C (v := 40) (by decide) dL_isWaited_148 ?_
      refine zz_icmp_gt (pc := 150) C (tgt := 157) dL_isWaited_150 (by decide) (fun hc150 => ?_) (fun hc150 => ?_)
      · exact False.elim (z40 (by omega) hc150)
      · refine zz_iload_n (pc := 153) C dL_isWaited_153 rfl ?_
        refine zz_if_ne (pc := 154) C (tgt := 185) dL_isWaited_154 (by decide) (fun hc154 => ?_) (fun hc154 => ?_)
        · refine zz_iload (pc := 185) C dL_isWaited_185 rfl ?_
          refine zz_if_ne (pc := 187) C (tgt := 219) dL_isWaited_187 (by decide) (fun hc187 => ?_) (fun hc187 => ?_)
          · refine zz_iload (pc := 219) C dL_isWaited_219 rfl ?_
            refine zz_aload_n (pc := 221) C dL_isWaited_221 rfl ?_
            refine zz_iload_n (pc := 222) C dL_isWaited_222 rfl ?_
            refine zz_callV (pc := 223) C (q_state l D hC1 h1 hk q0 (k := k9)) gL_isWaited_X2_state rfl 1 (by decide +kernel) ⟨Nat.le_of_ble_eq_true rfl, Nat.le_of_ble_eq_true rfl⟩ hC1.x (ci := 2) rfl rfl rfl dL_isWaited_223 rfl (Nat.le_of_ble_eq_true rfl) rfl ⟨Nat.le_of_ble_eq_true rfl, Nat.le_of_ble_eq_true rfl⟩ ?_
            rintro v G9 ⟨rfl, rfl⟩
            refine zz_if_ne (pc := 226) C (tgt := 233) dL_isWaited_226 (by decide) (fun hc226 => ?_) (fun hc226 => ?_)
            · refine zz_iconst (pc := 233) C (v := 0) (by decide) dL_isWaited_233 ?_
              refine zz_icmp_ne (pc := 234) C (tgt := 254) dL_isWaited_234 (by decide) (fun hc234 => ?_) (fun hc234 => ?_)
              · exact absurd rfl hc234
              · refine zz_iload (pc := 237) C dL_isWaited_237 rfl ?_
                refine zz_bipush (pc := 239) C (v := 99) (by decide) dL_isWaited_239 ?_
                refine zz_icmp_eq (pc := 241) C (tgt := 250) dL_isWaited_241 (by decide) (fun hc241 => ?_) (fun hc241 => ?_)
                · refine zz_iconst (pc := 250) C (v := 1) (by decide) dL_isWaited_250 ?_
                  refine zz_goto (pc := 251) C (tgt := 255) dL_isWaited_251 (by decide) ?_
                  refine zz_istore (pc := 255) C dL_isWaited_255 (Nat.le_of_ble_eq_true rfl) ?_
                  refine zV.less (L' := [some (.ref (x)), some (.int (nI k9)), some (.int ((nI b9))), some (.int (f9)), some (.int (zb (¬ zNot σ k9))), some (.int (w)), some (.int (zb (zHd σ k9 (nI b9) (1)))), some (.int (0)), some (.int (1)), none]) ⟨rfl, rfl, rfl, rfl, rfl, rfl, rfl, rfl, rfl, trivial⟩ ?_
                  refine zz_iload (pc := 257) C dL_isWaited_257 rfl ?_
                  refine zz_iconst (pc := 259) C (v := 1) (by decide) dL_isWaited_259 ?_
                  refine zz_icmp_ne (pc := 260) C (tgt := 340) dL_isWaited_260 (by decide) (fun hc260 => ?_) (fun hc260 => ?_)
                  · refine zz_iload (pc := 340) C dL_isWaited_340 rfl ?_
                    exact zzx_ret (zz_ireturn (pc := 342) C dL_isWaited_342 (by first | rfl | exact zb_nar) (Nat.le_of_ble_eq_true rfl) (Nat.le_of_ble_eq_true rfl) ⟨rfl, ⟨tb, ev, A, hC1⟩⟩)
                  · exact absurd (by decide) hc260
                · exact absurd (zLs_none hw hz) hc241
            · exact absurd (Classical.not_not.mp hc226) (by rw [qc]; decide)
          · exact absurd (zb_ne.mpr hh) hc187
        · exact absurd (znI0 b1 hb42) hc154
  · exact absurd (zNNn b9 hb42) hc121
set_option maxHeartbeats 4000000 in
set_option maxRecDepth 100000 in
theorem c_L_isWaited_Cf (l : Launch) (hl : l.stackTraces = false) (D : va_G) {B G : zG} {x tb ev : Nat} {A : Nat → Nat} {σ : zS} {m0 : Nat} (hC : zCl B x tb ev A σ [] 0 m0 G) {k9 : Nat} {f9 : Int32} {b9 : Nat} {τ : zS} {d9 : Nat} (hI : zIv 0 σ []) (h1 : 1 ≤ k9) (hk : k9 < 41) (h0 : σ 0 k9 ≠ 0) (hf : f9 = 0 ∨ f9 = 1) (hn : ¬ zNot σ k9) (b1 : 1 ≤ b9) (b41 : b9 < 41) (hh : zHd σ k9 (nI b9) 1) (d1 : 1 < d9) (d2 : d9 < 41) (d3 : d9 ≠ k9) (hz : zKz σ k9 (nI b9) d9) (hm : ∀ j, j < d9 → ¬ zKz σ k9 (nI b9) j) (hq : zCheck (zWset σ k9 (nI b9) f9) k9 = τ) (hq2 : zu (zEnds (zWset σ k9 (nI b9) f9) k9 (σ 14 d9) (nI d9) (σ 15 d9)) 0 d9 0 = τ) : zxMet D l yL_isWaited wsL_isWaited ({ frames := 12, cells := 20, slots := 120, locals := 340 } : Room) [.ref x, .int (nI k9), .int (nI b9), .int f9] G (fun v G9 => v = some (.int 1) ∧ zLq B x τ m0 G9) (fun _ => False) := by
  refine zxMet_of (cc := cL_isWaited) (maxL := 10) (ret := (some .boolean)) (by decide) rfl (Nat.le_of_ble_eq_true rfl) ?_
  intro p e s m args below meth c C hnx h8
  have hW := hI.wf
  have hb42 : b9 < 42 := by omega
  have hTH : zE3 (¬ zHere σ (nI k9)) (nI b9 < 1 ∨ (40 : Int32) < nI b9) (zNot σ (pn (nI k9))) = 0 := zE3_0 (fun z => z (zHere_n h1 hk h0)) (zNum_n b1 b41) (by rw [pnn hk]; exact hn)
  have hr : zRunN σ k9 := Classical.not_not.mp (fun z => hn (Or.inr z))
  have hI1 : zIv 0 (zCheck (zWset σ k9 (nI b9) f9) k9) [] := hI.waits h0 hr.1 (fun z => hn (Or.inl z)) hf
  rw [hq] at hI1
  have hW1 := hI1.wf
  have q6 : τ 6 k9 = 0 := by rw [← hq2]; simp [zEnds, zu]
  have q0 : τ 0 k9 ≠ 0 := by rw [← hq2]; simpa [zEnds, zu, Ne.symm d3] using h0
  have q4 : τ 4 k9 = 0 := by rw [← hq2]; exact hr.1
  have q5 : τ 5 k9 = 0 := by rw [← hq2]; exact hr.2.1
  have q18 : τ 18 k9 = σ 14 d9 := by rw [← hq2]; simp [zEnds, zu]
  have q19 : τ 19 k9 = nI d9 := by rw [← hq2]; simp [zEnds, zu]
  have q0d : τ 0 d9 = 0 := by rw [← hq2]; exact zu_self
  have q14 : σ 14 d9 = 0 ∨ σ 14 d9 = 1 := (hW.2.2.1 d9 hz.1.1 hz.2).2.2
  have qc : zCon τ k9 = 0 := zCon_0.mpr ⟨q4, q5, q6⟩
  have ht : (if zb ((zCheck (zWset σ (pn (nI k9)) (nI b9) f9) (pn (nI k9))) 6 (pn (nI k9)) = 0) = 0 then (0 : Int32) else 1) = 1 := by
    rw [pnn hk, hq]
    rw [if_neg (zb_ne.mpr q6)]
  refine t_L_isWaited l D hC C hW h1 hk h0 (fun w hw => ?_)
  refine zz_iload_n (pc := 120) C dL_isWaited_120 rfl ?_
  refine zz_if_ge (pc := 121) C (tgt := 133) dL_isWaited_121 (by decide) (fun hc121 => ?_) (fun hc121 => ?_)
  · refine zz_aload_n (pc := 133) C dL_isWaited_133 rfl ?_
    refine zz_iload_n (pc := 134) C dL_isWaited_134 rfl ?_
    refine zz_iload_n (pc := 135) C dL_isWaited_135 rfl ?_
    refine zz_iload_n (pc := 136) C dL_isWaited_136 rfl ?_
    refine zzx_callSW (pc := 137) C h8 ((c_L_waitsFor l hl D (x9 := nI k9) (c9 := nI b9) (f9 := f9) hC hW hf).imp (fun _ _ z => z.elim id (fun z => z.elim (fun y => absurd (hTH.symm.trans y.1) (by decide)) (fun z => z.elim (fun y => absurd (hTH.symm.trans y.1) (by decide)) (fun z => absurd (hTH.symm.trans z.1) (by decide))))) (fun _ z => z)) gL_isWaited_L_waitsFor rfl 4 (by decide +kernel) ⟨Nat.le_of_ble_eq_true rfl, Nat.le_of_ble_eq_true rfl⟩ rfl dL_isWaited_137 rfl (Nat.le_of_ble_eq_true rfl) rfl ⟨Nat.le_of_ble_eq_true rfl, Nat.le_of_ble_eq_true rfl⟩ (fun E hE => hE.elim) ?_
    rintro v G9 ⟨_, rfl, hC1⟩
    rw [ht]
    rw [pnn hk, hq] at hC1
    refine zz_istore (pc := 140) C dL_isWaited_140 (Nat.le_of_ble_eq_true rfl) ?_
    refine zV.less (L' := [some (.ref (x)), some (.int (nI k9)), some (.int ((nI b9))), some (.int (f9)), some (.int (zb (¬ zNot σ k9))), some (.int (w)), some (.int (zb (zHd σ k9 (nI b9) (1)))), some (.int (1)), none, none]) ⟨rfl, rfl, rfl, rfl, rfl, rfl, rfl, rfl, trivial⟩ ?_
    refine zz_iload (pc := 142) C dL_isWaited_142 rfl ?_
    refine zz_if_eq (pc := 144) C (tgt := 157) dL_isWaited_144 (by decide) (fun hc144 => ?_) (fun hc144 => ?_)
    · exact False.elim (zb_eq.mp hc144 hn)
    · refine zz_iload_n (pc := 147) C dL_isWaited_147 rfl ?_
      refine zz_bipush (pc := 148) C (v := 40) (by decide) dL_isWaited_148 ?_
      refine zz_icmp_gt (pc := 150) C (tgt := 157) dL_isWaited_150 (by decide) (fun hc150 => ?_) (fun hc150 => ?_)
      · exact False.elim (z40 (by omega) hc150)
      · refine zz_iload_n (pc := 153) C dL_isWaited_153 rfl ?_
        refine zz_if_ne (pc := 154) C (tgt := 185) dL_isWaited_154 (by decide) (fun hc154 => ?_) (fun hc154 => ?_)
        · refine zz_iload (pc := 185) C dL_isWaited_185 rfl ?_
          refine zz_if_ne (pc := 187) C (tgt := 219) dL_isWaited_187 (by decide) (fun hc187 => ?_) (fun hc187 => ?_)
          · refine zz_iload (pc := 219) C dL_isWaited_219 rfl ?_
            refine zz_aload_n (pc := 221) C dL_isWaited_221 rfl ?_
            refine zz_iload_n (pc := 222) C dL_isWaited_222 rfl ?_
            refine zz_callV (pc := 223) C (q_state l D hC1 h1 hk q0 (k := k9)) gL_isWaited_X2_state rfl 1 (by decide +kernel) ⟨Nat.le_of_ble_eq_true rfl, Nat.le_of_ble_eq_true rfl⟩ hC1.x (ci := 2) rfl rfl rfl dL_isWaited_223 rfl (Nat.le_of_ble_eq_true rfl) rfl ⟨Nat.le_of_ble_eq_true rfl, Nat.le_of_ble_eq_true rfl⟩ ?_
            rintro v G9 ⟨rfl, rfl⟩
            refine zz_if_ne (pc := 226) C (tgt := 233) dL_isWaited_226 (by decide) (fun hc226 => ?_) (fun hc226 => ?_)
            · exact absurd qc hc226
            · refine zz_iconst (pc := 229) C (v := 1) (by decide) dL_isWaited_229 ?_
              refine zz_goto (pc := 230) C (tgt := 234) dL_isWaited_230 (by decide) ?_
              refine zz_icmp_ne (pc := 234) C (tgt := 254) dL_isWaited_234 (by decide) (fun hc234 => ?_) (fun hc234 => ?_)
              · exact absurd rfl hc234
              · refine zz_iload (pc := 237) C dL_isWaited_237 rfl ?_
                refine zz_bipush (pc := 239) C (v := 99) (by decide) dL_isWaited_239 ?_
                refine zz_icmp_eq (pc := 241) C (tgt := 250) dL_isWaited_241 (by decide) (fun hc241 => ?_) (fun hc241 => ?_)
                · exact absurd hc241 (by rw [zLs_is hw d1 d2 hz hm]; exact zn99 d2)
                · refine zz_iload (pc := 244) C dL_isWaited_244 rfl ?_
                  refine zz_iconst (pc := 246) C (v := 1) (by decide) dL_isWaited_246 ?_
                  refine zz_icmp_ne (pc := 247) C (tgt := 254) dL_isWaited_247 (by decide) (fun hc247 => ?_) (fun hc247 => ?_)
                  · exact absurd rfl hc247
                  · refine zz_iconst (pc := 250) C (v := 1) (by decide) dL_isWaited_250 ?_
                    refine zz_goto (pc := 251) C (tgt := 255) dL_isWaited_251 (by decide) ?_
                    refine zz_istore (pc := 255) C dL_isWaited_255 (Nat.le_of_ble_eq_true rfl) ?_
                    refine zV.less (L' := [some (.ref (x)), some (.int (nI k9)), some (.int ((nI b9))), some (.int (f9)), some (.int (zb (¬ zNot σ k9))), some (.int (w)), some (.int (zb (zHd σ k9 (nI b9) (1)))), some (.int (1)), some (.int (1)), none]) ⟨rfl, rfl, rfl, rfl, rfl, rfl, rfl, rfl, rfl, trivial⟩ ?_
                    refine zz_iload (pc := 257) C dL_isWaited_257 rfl ?_
                    refine zz_iconst (pc := 259) C (v := 1) (by decide) dL_isWaited_259 ?_
                    refine zz_icmp_ne (pc := 260) C (tgt := 340) dL_isWaited_260 (by decide) (fun hc260 => ?_) (fun hc260 => ?_)
                    · exact absurd rfl hc260
                    · refine zz_iload (pc := 263) C dL_isWaited_263 rfl ?_
                      refine zz_if_eq (pc := 265) C (tgt := 340) dL_isWaited_265 (by decide) (fun hc265 => ?_) (fun hc265 => ?_)
                      · exact absurd hc265 (by decide)
                      · refine zz_aload_n (pc := 268) C dL_isWaited_268 rfl ?_
                        refine zz_iload_n (pc := 269) C dL_isWaited_269 rfl ?_
                        refine zz_callV (pc := 270) C (q_reportedChild l D hC1 h1 hk q0 (k := k9)) gL_isWaited_X2_reportedChild rfl 1 (by decide +kernel) ⟨Nat.le_of_ble_eq_true rfl, Nat.le_of_ble_eq_true rfl⟩ hC1.x (ci := 2) rfl rfl rfl dL_isWaited_270 rfl (Nat.le_of_ble_eq_true rfl) rfl ⟨Nat.le_of_ble_eq_true rfl, Nat.le_of_ble_eq_true rfl⟩ ?_
                        rintro v G9 ⟨rfl, rfl⟩
                        rw [q19]
                        refine zz_istore (pc := 273) C dL_isWaited_273 (Nat.le_of_ble_eq_true rfl) ?_
                        refine zV.less (L' := [some (.ref (x)), some (.int (nI k9)), some (.int ((nI b9))), some (.int (f9)), some (.int (zb (¬ zNot σ k9))), some (.int (w)), some (.int (zb (zHd σ k9 (nI b9) (1)))), some (.int (1)), some (.int (1)), some (.int (nI d9))]) ⟨rfl, rfl, rfl, rfl, rfl, rfl, rfl, rfl, rfl, rfl, trivial⟩ ?_
                        refine zz_iload (pc := 275) C dL_isWaited_275 rfl ?_
                        refine zz_iload (pc := 277) C dL_isWaited_277 rfl ?_
                        refine zz_icmp_gt (pc := 279) C (tgt := 337) dL_isWaited_279 (by decide) (fun hc279 => ?_) (fun hc279 => ?_)
                        · exact absurd hc279 (by rw [zLs_is hw d1 d2 hz hm]; exact Int32.lt_irrefl)
                        · refine zz_iload (pc := 282) C dL_isWaited_282 rfl ?_
                          refine zz_iload (pc := 284) C dL_isWaited_284 rfl ?_
                          refine zz_icmp_ne (pc := 286) C (tgt := 310) dL_isWaited_286 (by decide) (fun hc286 => ?_) (fun hc286 => ?_)
                          · exact absurd (zLs_is hw d1 d2 hz hm).symm hc286
                          · refine zz_aload_n (pc := 289) C dL_isWaited_289 rfl ?_
                            refine zz_iload (pc := 290) C dL_isWaited_290 rfl ?_
                            refine zz_callV (pc := 292) C (q_exists l D hC1 (by omega) d2 (k := d9)) gL_isWaited_X2_exists rfl 1 (by decide +kernel) ⟨Nat.le_of_ble_eq_true rfl, Nat.le_of_ble_eq_true rfl⟩ hC1.x (ci := 2) rfl rfl rfl dL_isWaited_292 rfl (Nat.le_of_ble_eq_true rfl) rfl ⟨Nat.le_of_ble_eq_true rfl, Nat.le_of_ble_eq_true rfl⟩ ?_
                            rintro v G9 ⟨rfl, rfl⟩
                            refine zz_if_ne (pc := 295) C (tgt := 337) dL_isWaited_295 (by decide) (fun hc295 => ?_) (fun hc295 => ?_)
                            · exact absurd q0d (zb_ne.mp hc295)
                            · refine zz_aload_n (pc := 298) C dL_isWaited_298 rfl ?_
                              refine zz_iload_n (pc := 299) C dL_isWaited_299 rfl ?_
                              refine zz_callV (pc := 300) C (q_waitResult l D hC1 h1 hk q0 (k := k9)) gL_isWaited_X2_waitResult rfl 1 (by decide +kernel) ⟨Nat.le_of_ble_eq_true rfl, Nat.le_of_ble_eq_true rfl⟩ hC1.x (ci := 2) rfl rfl rfl dL_isWaited_300 rfl (Nat.le_of_ble_eq_true rfl) rfl ⟨Nat.le_of_ble_eq_true rfl, Nat.le_of_ble_eq_true rfl⟩ ?_
                              rintro v G9 ⟨rfl, rfl⟩
                              refine zz_iconst (pc := 303) C (v := 2) (by decide) dL_isWaited_303 ?_
                              refine zz_icmp_ge (pc := 304) C (tgt := 337) dL_isWaited_304 (by decide) (fun hc304 => ?_) (fun hc304 => ?_)
                              · exact absurd hc304 (by rw [q18]; rcases q14 with e | e <;> rw [e] <;> decide)
                              · refine zz_goto (pc := 307) C (tgt := 333) dL_isWaited_307 (by decide) ?_
                                refine zz_iconst (pc := 333) C (v := 1) (by decide) dL_isWaited_333 ?_
                                refine zz_goto (pc := 334) C (tgt := 338) dL_isWaited_334 (by decide) ?_
                                refine zz_istore (pc := 338) C dL_isWaited_338 (Nat.le_of_ble_eq_true rfl) ?_
                                refine zV.less (L' := [some (.ref (x)), some (.int (nI k9)), some (.int ((nI b9))), some (.int (f9)), some (.int (zb (¬ zNot σ k9))), some (.int (w)), some (.int (zb (zHd σ k9 (nI b9) (1)))), some (.int (1)), some (.int (1)), some (.int (nI d9))]) ⟨rfl, rfl, rfl, rfl, rfl, rfl, rfl, rfl, rfl, rfl, trivial⟩ ?_
                                refine zz_iload (pc := 340) C dL_isWaited_340 rfl ?_
                                exact zzx_ret (zz_ireturn (pc := 342) C dL_isWaited_342 (by first | rfl | exact zb_nar) (Nat.le_of_ble_eq_true rfl) (Nat.le_of_ble_eq_true rfl) ⟨rfl, ⟨tb, ev, A, hC1⟩⟩)
          · exact absurd (zb_ne.mpr hh) hc187
        · exact absurd (znI0 b1 hb42) hc154
  · exact absurd (zNNn b9 hb42) hc121
set_option maxHeartbeats 4000000 in
set_option maxRecDepth 100000 in
theorem c_L_isWaited_Df (l : Launch) (hl : l.stackTraces = false) (D : va_G) {B G : zG} {x tb ev : Nat} {A : Nat → Nat} {σ : zS} {m0 : Nat} (hC : zCl B x tb ev A σ [] 0 m0 G) {k9 : Nat} {f9 : Int32} {b9 : Nat} {τ : zS} {d9 : Nat} (hI : zIv 0 σ []) (h1 : 1 ≤ k9) (hk : k9 < 41) (h0 : σ 0 k9 ≠ 0) (hf : f9 = 0 ∨ f9 = 1) (hn : ¬ zNot σ k9) (b1 : 1 ≤ b9) (b41 : b9 < 41) (hh : zHd σ k9 (nI b9) 1) (d1 : 1 < d9) (d2 : d9 < 41) (d3 : d9 ≠ k9) (hz : zKd σ k9 (nI b9) d9) (h4 : σ 4 d9 = 0) (h5 : σ 5 d9 ≠ 0) (hf0 : f9 ≠ 0) (hm : ∀ j, j < d9 → ¬ zKz σ k9 (nI b9) j) (hq : zCheck (zWset σ k9 (nI b9) f9) k9 = τ) (hq2 : zu (zEnds (zWset σ k9 (nI b9) f9) k9 2 (nI d9) (σ 16 d9)) 17 d9 0 = τ) : zxMet D l yL_isWaited wsL_isWaited ({ frames := 12, cells := 20, slots := 120, locals := 340 } : Room) [.ref x, .int (nI k9), .int (nI b9), .int f9] G (fun v G9 => v = some (.int 1) ∧ zLq B x τ m0 G9) (fun _ => False) := by
  refine zxMet_of (cc := cL_isWaited) (maxL := 10) (ret := (some .boolean)) (by decide) rfl (Nat.le_of_ble_eq_true rfl) ?_
  intro p e s m args below meth c C hnx h8
  have hW := hI.wf
  have hb42 : b9 < 42 := by omega
  have hTH : zE3 (¬ zHere σ (nI k9)) (nI b9 < 1 ∨ (40 : Int32) < nI b9) (zNot σ (pn (nI k9))) = 0 := zE3_0 (fun z => z (zHere_n h1 hk h0)) (zNum_n b1 b41) (by rw [pnn hk]; exact hn)
  have hr : zRunN σ k9 := Classical.not_not.mp (fun z => hn (Or.inr z))
  have hI1 : zIv 0 (zCheck (zWset σ k9 (nI b9) f9) k9) [] := hI.waits h0 hr.1 (fun z => hn (Or.inl z)) hf
  rw [hq] at hI1
  have hW1 := hI1.wf
  have q6 : τ 6 k9 = 0 := by rw [← hq2]; simp [zEnds, zu]
  have q0 : τ 0 k9 ≠ 0 := by rw [← hq2]; exact h0
  have q4 : τ 4 k9 = 0 := by rw [← hq2]; exact hr.1
  have q5 : τ 5 k9 = 0 := by rw [← hq2]; exact hr.2.1
  have q18 : τ 18 k9 = 2 := by rw [← hq2]; simp [zEnds, zu]
  have q19 : τ 19 k9 = nI d9 := by rw [← hq2]; simp [zEnds, zu]
  have q0d : τ 0 d9 ≠ 0 := by rw [← hq2]; exact hz.1
  have qd : zCon τ d9 = 2 := zCon_2.mpr (by rw [← hq2]; exact ⟨h4, h5⟩)
  have qc : zCon τ k9 = 0 := zCon_0.mpr ⟨q4, q5, q6⟩
  have ht : (if zb ((zCheck (zWset σ (pn (nI k9)) (nI b9) f9) (pn (nI k9))) 6 (pn (nI k9)) = 0) = 0 then (0 : Int32) else 1) = 1 := by
    rw [pnn hk, hq]
    rw [if_neg (zb_ne.mpr q6)]
  refine t_L_isWaited l D hC C hW h1 hk h0 (fun w hw => ?_)
  refine zz_iload_n (pc := 120) C dL_isWaited_120 rfl ?_
  refine zz_if_ge (pc := 121) C (tgt := 133) dL_isWaited_121 (by decide) (fun hc121 => ?_) (fun hc121 => ?_)
  · refine zz_aload_n (pc := 133) C dL_isWaited_133 rfl ?_
    refine zz_iload_n (pc := 134) C dL_isWaited_134 rfl ?_
    refine zz_iload_n (pc := 135) C dL_isWaited_135 rfl ?_
    refine zz_iload_n (pc := 136) C dL_isWaited_136 rfl ?_
    refine zzx_callSW (pc := 137) C h8 ((c_L_waitsFor l hl D (x9 := nI k9) (c9 := nI b9) (f9 := f9) hC hW hf).imp (fun _ _ z => z.elim id (fun z => z.elim (fun y => absurd (hTH.symm.trans y.1) (by decide)) (fun z => z.elim (fun y => absurd (hTH.symm.trans y.1) (by decide)) (fun z => absurd (hTH.symm.trans z.1) (by decide))))) (fun _ z => z)) gL_isWaited_L_waitsFor rfl 4 (by decide +kernel) ⟨Nat.le_of_ble_eq_true rfl, Nat.le_of_ble_eq_true rfl⟩ rfl dL_isWaited_137 rfl (Nat.le_of_ble_eq_true rfl) rfl ⟨Nat.le_of_ble_eq_true rfl, Nat.le_of_ble_eq_true rfl⟩ (fun E hE => hE.elim) ?_
    rintro v G9 ⟨_, rfl, hC1⟩
    rw [ht]
    rw [pnn hk, hq] at hC1
    refine zz_istore (pc := 140) C dL_isWaited_140 (Nat.le_of_ble_eq_true rfl) ?_
    refine zV.less (L' := [some (.ref (x)), some (.int (nI k9)), some (.int ((nI b9))), some (.int (f9)), some (.int (zb (¬ zNot σ k9))), some (.int (w)), some (.int (zb (zHd σ k9 (nI b9) (1)))), some (.int (1)), none, none]) ⟨rfl, rfl, rfl, rfl, rfl, rfl, rfl, rfl, trivial⟩ ?_
    refine zz_iload (pc := 142) C dL_isWaited_142 rfl ?_
    refine zz_if_eq (pc := 144) C (tgt := 157) dL_isWaited_144 (by decide) (fun hc144 => ?_) (fun hc144 => ?_)
    · exact False.elim (zb_eq.mp hc144 hn)
    · refine zz_iload_n (pc := 147) C dL_isWaited_147 rfl ?_
      refine zz_bipush (pc := 148) C (v := 40) (by decide) dL_isWaited_148 ?_
      refine zz_icmp_gt (pc := 150) C (tgt := 157) dL_isWaited_150 (by decide) (fun hc150 => ?_) (fun hc150 => ?_)
      · exact False.elim (z40 (by omega) hc150)
      · refine zz_iload_n (pc := 153) C dL_isWaited_153 rfl ?_
        refine zz_if_ne (pc := 154) C (tgt := 185) dL_isWaited_154 (by decide) (fun hc154 => ?_) (fun hc154 => ?_)
        · refine zz_iload (pc := 185) C dL_isWaited_185 rfl ?_
          refine zz_if_ne (pc := 187) C (tgt := 219) dL_isWaited_187 (by decide) (fun hc187 => ?_) (fun hc187 => ?_)
          · refine zz_iload (pc := 219) C dL_isWaited_219 rfl ?_
            refine zz_aload_n (pc := 221) C dL_isWaited_221 rfl ?_
            refine zz_iload_n (pc := 222) C dL_isWaited_222 rfl ?_
            refine zz_callV (pc := 223) C (q_state l D hC1 h1 hk q0 (k := k9)) gL_isWaited_X2_state rfl 1 (by decide +kernel) ⟨Nat.le_of_ble_eq_true rfl, Nat.le_of_ble_eq_true rfl⟩ hC1.x (ci := 2) rfl rfl rfl dL_isWaited_223 rfl (Nat.le_of_ble_eq_true rfl) rfl ⟨Nat.le_of_ble_eq_true rfl, Nat.le_of_ble_eq_true rfl⟩ ?_
            rintro v G9 ⟨rfl, rfl⟩
            refine zz_if_ne (pc := 226) C (tgt := 233) dL_isWaited_226 (by decide) (fun hc226 => ?_) (fun hc226 => ?_)
            · exact absurd qc hc226
            · refine zz_iconst (pc := 229) C (v := 1) (by decide) dL_isWaited_229 ?_
              refine zz_goto (pc := 230) C (tgt := 234) dL_isWaited_230 (by decide) ?_
              refine zz_icmp_ne (pc := 234) C (tgt := 254) dL_isWaited_234 (by decide) (fun hc234 => ?_) (fun hc234 => ?_)
              · exact absurd rfl hc234
              · refine zz_iload (pc := 237) C dL_isWaited_237 rfl ?_
                refine zz_bipush (pc := 239) C (v := 99) (by decide) dL_isWaited_239 ?_
                refine zz_icmp_eq (pc := 241) C (tgt := 250) dL_isWaited_241 (by decide) (fun hc241 => ?_) (fun hc241 => ?_)
                · refine zz_iconst (pc := 250) C (v := 1) (by decide) dL_isWaited_250 ?_
                  refine zz_goto (pc := 251) C (tgt := 255) dL_isWaited_251 (by decide) ?_
                  refine zz_istore (pc := 255) C dL_isWaited_255 (Nat.le_of_ble_eq_true rfl) ?_
                  refine zV.less (L' := [some (.ref (x)), some (.int (nI k9)), some (.int ((nI b9))), some (.int (f9)), some (.int (zb (¬ zNot σ k9))), some (.int (w)), some (.int (zb (zHd σ k9 (nI b9) (1)))), some (.int (1)), some (.int (1)), none]) ⟨rfl, rfl, rfl, rfl, rfl, rfl, rfl, rfl, rfl, trivial⟩ ?_
                  refine zz_iload (pc := 257) C dL_isWaited_257 rfl ?_
                  refine zz_iconst (pc := 259) C (v := 1) (by decide) dL_isWaited_259 ?_
                  refine zz_icmp_ne (pc := 260) C (tgt := 340) dL_isWaited_260 (by decide) (fun hc260 => ?_) (fun hc260 => ?_)
                  · exact absurd rfl hc260
                  · refine zz_iload (pc := 263) C dL_isWaited_263 rfl ?_
                    refine zz_if_eq (pc := 265) C (tgt := 340) dL_isWaited_265 (by decide) (fun hc265 => ?_) (fun hc265 => ?_)
                    · exact absurd hc265 (by decide)
                    · refine zz_aload_n (pc := 268) C dL_isWaited_268 rfl ?_
                      refine zz_iload_n (pc := 269) C dL_isWaited_269 rfl ?_
                      refine zz_callV (pc := 270) C (q_reportedChild l D hC1 h1 hk q0 (k := k9)) gL_isWaited_X2_reportedChild rfl 1 (by decide +kernel) ⟨Nat.le_of_ble_eq_true rfl, Nat.le_of_ble_eq_true rfl⟩ hC1.x (ci := 2) rfl rfl rfl dL_isWaited_270 rfl (Nat.le_of_ble_eq_true rfl) rfl ⟨Nat.le_of_ble_eq_true rfl, Nat.le_of_ble_eq_true rfl⟩ ?_
                      rintro v G9 ⟨rfl, rfl⟩
                      rw [q19]
                      refine zz_istore (pc := 273) C dL_isWaited_273 (Nat.le_of_ble_eq_true rfl) ?_
                      refine zV.less (L' := [some (.ref (x)), some (.int (nI k9)), some (.int ((nI b9))), some (.int (f9)), some (.int (zb (¬ zNot σ k9))), some (.int (w)), some (.int (zb (zHd σ k9 (nI b9) (1)))), some (.int (1)), some (.int (1)), some (.int (nI d9))]) ⟨rfl, rfl, rfl, rfl, rfl, rfl, rfl, rfl, rfl, rfl, trivial⟩ ?_
                      refine zz_iload (pc := 275) C dL_isWaited_275 rfl ?_
                      refine zz_iload (pc := 277) C dL_isWaited_277 rfl ?_
                      refine zz_icmp_gt (pc := 279) C (tgt := 337) dL_isWaited_279 (by decide) (fun hc279 => ?_) (fun hc279 => ?_)
                      · exact False.elim ((zLs_above hw d2 h4 hm).1 hc279)
                      · refine zz_iload (pc := 282) C dL_isWaited_282 rfl ?_
                        refine zz_iload (pc := 284) C dL_isWaited_284 rfl ?_
                        refine zz_icmp_ne (pc := 286) C (tgt := 310) dL_isWaited_286 (by decide) (fun hc286 => ?_) (fun hc286 => ?_)
                        · refine zz_iload_n (pc := 310) C dL_isWaited_310 rfl ?_
                          refine zz_if_eq (pc := 311) C (tgt := 337) dL_isWaited_311 (by decide) (fun hc311 => ?_) (fun hc311 => ?_)
                          · exact False.elim (hf0 hc311)
                          · refine zz_aload_n (pc := 314) C dL_isWaited_314 rfl ?_
                            refine zz_iload (pc := 315) C dL_isWaited_315 rfl ?_
                            refine zz_callV (pc := 317) C (q_state l D hC1 (by omega) d2 q0d (k := d9)) gL_isWaited_X2_state rfl 1 (by decide +kernel) ⟨Nat.le_of_ble_eq_true rfl, Nat.le_of_ble_eq_true rfl⟩ hC1.x (ci := 2) rfl rfl rfl dL_isWaited_317 rfl (Nat.le_of_ble_eq_true rfl) rfl ⟨Nat.le_of_ble_eq_true rfl, Nat.le_of_ble_eq_true rfl⟩ ?_
                            rintro v G9 ⟨rfl, rfl⟩
                            refine zz_iconst (pc := 320) C (v := 2) (by decide) dL_isWaited_320 ?_
                            refine zz_icmp_ne (pc := 321) C (tgt := 337) dL_isWaited_321 (by decide) (fun hc321 => ?_) (fun hc321 => ?_)
                            · exact absurd qd hc321
                            · refine zz_aload_n (pc := 324) C dL_isWaited_324 rfl ?_
                              refine zz_iload_n (pc := 325) C dL_isWaited_325 rfl ?_
                              refine zz_callV (pc := 326) C (q_waitResult l D hC1 h1 hk q0 (k := k9)) gL_isWaited_X2_waitResult rfl 1 (by decide +kernel) ⟨Nat.le_of_ble_eq_true rfl, Nat.le_of_ble_eq_true rfl⟩ hC1.x (ci := 2) rfl rfl rfl dL_isWaited_326 rfl (Nat.le_of_ble_eq_true rfl) rfl ⟨Nat.le_of_ble_eq_true rfl, Nat.le_of_ble_eq_true rfl⟩ ?_
                              rintro v G9 ⟨rfl, rfl⟩
                              refine zz_iconst (pc := 329) C (v := 2) (by decide) dL_isWaited_329 ?_
                              refine zz_icmp_ne (pc := 330) C (tgt := 337) dL_isWaited_330 (by decide) (fun hc330 => ?_) (fun hc330 => ?_)
                              · exact absurd q18 hc330
                              · refine zz_iconst (pc := 333) C (v := 1) (by decide) dL_isWaited_333 ?_
                                refine zz_goto (pc := 334) C (tgt := 338) dL_isWaited_334 (by decide) ?_
                                refine zz_istore (pc := 338) C dL_isWaited_338 (Nat.le_of_ble_eq_true rfl) ?_
                                refine zV.less (L' := [some (.ref (x)), some (.int (nI k9)), some (.int ((nI b9))), some (.int (f9)), some (.int (zb (¬ zNot σ k9))), some (.int (w)), some (.int (zb (zHd σ k9 (nI b9) (1)))), some (.int (1)), some (.int (1)), some (.int (nI d9))]) ⟨rfl, rfl, rfl, rfl, rfl, rfl, rfl, rfl, rfl, rfl, trivial⟩ ?_
                                refine zz_iload (pc := 340) C dL_isWaited_340 rfl ?_
                                exact zzx_ret (zz_ireturn (pc := 342) C dL_isWaited_342 (by first | rfl | exact zb_nar) (Nat.le_of_ble_eq_true rfl) (Nat.le_of_ble_eq_true rfl) ⟨rfl, ⟨tb, ev, A, hC1⟩⟩)
                        · exact False.elim (hc286 (zLs_above hw d2 h4 hm).2)
                · refine zz_iload (pc := 244) C dL_isWaited_244 rfl ?_
                  refine zz_iconst (pc := 246) C (v := 1) (by decide) dL_isWaited_246 ?_
                  refine zz_icmp_ne (pc := 247) C (tgt := 254) dL_isWaited_247 (by decide) (fun hc247 => ?_) (fun hc247 => ?_)
                  · exact absurd rfl hc247
                  · refine zz_iconst (pc := 250) C (v := 1) (by decide) dL_isWaited_250 ?_
                    refine zz_goto (pc := 251) C (tgt := 255) dL_isWaited_251 (by decide) ?_
                    refine zz_istore (pc := 255) C dL_isWaited_255 (Nat.le_of_ble_eq_true rfl) ?_
                    refine zV.less (L' := [some (.ref (x)), some (.int (nI k9)), some (.int ((nI b9))), some (.int (f9)), some (.int (zb (¬ zNot σ k9))), some (.int (w)), some (.int (zb (zHd σ k9 (nI b9) (1)))), some (.int (1)), some (.int (1)), none]) ⟨rfl, rfl, rfl, rfl, rfl, rfl, rfl, rfl, rfl, trivial⟩ ?_
                    refine zz_iload (pc := 257) C dL_isWaited_257 rfl ?_
                    refine zz_iconst (pc := 259) C (v := 1) (by decide) dL_isWaited_259 ?_
                    refine zz_icmp_ne (pc := 260) C (tgt := 340) dL_isWaited_260 (by decide) (fun hc260 => ?_) (fun hc260 => ?_)
                    · exact absurd rfl hc260
                    · refine zz_iload (pc := 263) C dL_isWaited_263 rfl ?_
                      refine zz_if_eq (pc := 265) C (tgt := 340) dL_isWaited_265 (by decide) (fun hc265 => ?_) (fun hc265 => ?_)
                      · exact absurd hc265 (by decide)
                      · refine zz_aload_n (pc := 268) C dL_isWaited_268 rfl ?_
                        refine zz_iload_n (pc := 269) C dL_isWaited_269 rfl ?_
                        refine zz_callV (pc := 270) C (q_reportedChild l D hC1 h1 hk q0 (k := k9)) gL_isWaited_X2_reportedChild rfl 1 (by decide +kernel) ⟨Nat.le_of_ble_eq_true rfl, Nat.le_of_ble_eq_true rfl⟩ hC1.x (ci := 2) rfl rfl rfl dL_isWaited_270 rfl (Nat.le_of_ble_eq_true rfl) rfl ⟨Nat.le_of_ble_eq_true rfl, Nat.le_of_ble_eq_true rfl⟩ ?_
                        rintro v G9 ⟨rfl, rfl⟩
                        rw [q19]
                        refine zz_istore (pc := 273) C dL_isWaited_273 (Nat.le_of_ble_eq_true rfl) ?_
                        refine zV.less (L' := [some (.ref (x)), some (.int (nI k9)), some (.int ((nI b9))), some (.int (f9)), some (.int (zb (¬ zNot σ k9))), some (.int (w)), some (.int (zb (zHd σ k9 (nI b9) (1)))), some (.int (1)), some (.int (1)), some (.int (nI d9))]) ⟨rfl, rfl, rfl, rfl, rfl, rfl, rfl, rfl, rfl, rfl, trivial⟩ ?_
                        refine zz_iload (pc := 275) C dL_isWaited_275 rfl ?_
                        refine zz_iload (pc := 277) C dL_isWaited_277 rfl ?_
                        refine zz_icmp_gt (pc := 279) C (tgt := 337) dL_isWaited_279 (by decide) (fun hc279 => ?_) (fun hc279 => ?_)
                        · exact False.elim ((zLs_above hw d2 h4 hm).1 hc279)
                        · refine zz_iload (pc := 282) C dL_isWaited_282 rfl ?_
                          refine zz_iload (pc := 284) C dL_isWaited_284 rfl ?_
                          refine zz_icmp_ne (pc := 286) C (tgt := 310) dL_isWaited_286 (by decide) (fun hc286 => ?_) (fun hc286 => ?_)
                          · refine zz_iload_n (pc := 310) C dL_isWaited_310 rfl ?_
                            refine zz_if_eq (pc := 311) C (tgt := 337) dL_isWaited_311 (by decide) (fun hc311 => ?_) (fun hc311 => ?_)
                            · exact False.elim (hf0 hc311)
                            · refine zz_aload_n (pc := 314) C dL_isWaited_314 rfl ?_
                              refine zz_iload (pc := 315) C dL_isWaited_315 rfl ?_
                              refine zz_callV (pc := 317) C (q_state l D hC1 (by omega) d2 q0d (k := d9)) gL_isWaited_X2_state rfl 1 (by decide +kernel) ⟨Nat.le_of_ble_eq_true rfl, Nat.le_of_ble_eq_true rfl⟩ hC1.x (ci := 2) rfl rfl rfl dL_isWaited_317 rfl (Nat.le_of_ble_eq_true rfl) rfl ⟨Nat.le_of_ble_eq_true rfl, Nat.le_of_ble_eq_true rfl⟩ ?_
                              rintro v G9 ⟨rfl, rfl⟩
                              refine zz_iconst (pc := 320) C (v := 2) (by decide) dL_isWaited_320 ?_
                              refine zz_icmp_ne (pc := 321) C (tgt := 337) dL_isWaited_321 (by decide) (fun hc321 => ?_) (fun hc321 => ?_)
                              · exact absurd qd hc321
                              · refine zz_aload_n (pc := 324) C dL_isWaited_324 rfl ?_
                                refine zz_iload_n (pc := 325) C dL_isWaited_325 rfl ?_
                                refine zz_callV (pc := 326) C (q_waitResult l D hC1 h1 hk q0 (k := k9)) gL_isWaited_X2_waitResult rfl 1 (by decide +kernel) ⟨Nat.le_of_ble_eq_true rfl, Nat.le_of_ble_eq_true rfl⟩ hC1.x (ci := 2) rfl rfl rfl dL_isWaited_326 rfl (Nat.le_of_ble_eq_true rfl) rfl ⟨Nat.le_of_ble_eq_true rfl, Nat.le_of_ble_eq_true rfl⟩ ?_
                                rintro v G9 ⟨rfl, rfl⟩
                                refine zz_iconst (pc := 329) C (v := 2) (by decide) dL_isWaited_329 ?_
                                refine zz_icmp_ne (pc := 330) C (tgt := 337) dL_isWaited_330 (by decide) (fun hc330 => ?_) (fun hc330 => ?_)
                                · exact absurd q18 hc330
                                · refine zz_iconst (pc := 333) C (v := 1) (by decide) dL_isWaited_333 ?_
                                  refine zz_goto (pc := 334) C (tgt := 338) dL_isWaited_334 (by decide) ?_
                                  refine zz_istore (pc := 338) C dL_isWaited_338 (Nat.le_of_ble_eq_true rfl) ?_
                                  refine zV.less (L' := [some (.ref (x)), some (.int (nI k9)), some (.int ((nI b9))), some (.int (f9)), some (.int (zb (¬ zNot σ k9))), some (.int (w)), some (.int (zb (zHd σ k9 (nI b9) (1)))), some (.int (1)), some (.int (1)), some (.int (nI d9))]) ⟨rfl, rfl, rfl, rfl, rfl, rfl, rfl, rfl, rfl, rfl, trivial⟩ ?_
                                  refine zz_iload (pc := 340) C dL_isWaited_340 rfl ?_
                                  exact zzx_ret (zz_ireturn (pc := 342) C dL_isWaited_342 (by first | rfl | exact zb_nar) (Nat.le_of_ble_eq_true rfl) (Nat.le_of_ble_eq_true rfl) ⟨rfl, ⟨tb, ev, A, hC1⟩⟩)
                          · exact False.elim (hc286 (zLs_above hw d2 h4 hm).2)
          · exact absurd (zb_ne.mpr hh) hc187
        · exact absurd (znI0 b1 hb42) hc154
  · exact absurd (zNNn b9 hb42) hc121
