/-! isDone, where it does the call itself -/
theorem zSetA_k {σ : zS} {p s : Nat} {a : Int32} (hs : s < 9) : zSetA σ p (nI s) a 9 (9 * p + s) = a ∧ zSetA σ p (nI s) a 0 = σ 0 ∧ zSetA σ p (nI s) a 4 = σ 4 ∧ zSetA σ p (nI s) a 5 = σ 5 ∧ zSetA σ p (nI s) a 6 = σ 6 ∧ (a = 1 → zbit (zSetA σ p (nI s) a 11 p) s = false) := by
  have e : pn (nI s) = s := nI_clamp (by omega)
  unfold zSetA
  rw [e]
  refine ⟨?_, rfl, rfl, rfl, rfl, fun ha => ?_⟩
  · rw [zu_off (by decide), zu_self]
  · rw [zu_self, if_pos (Or.inl ha), zbit_clr (by omega) (by omega)]
    simp
theorem zOkA_n {s a : Nat} (hs : s < 9) (h2 : s ≠ 2) (h5 : s ≠ 5) (ha : a < 3) : zOkA (nI s) (nI a) := by
  refine ⟨nI_nlt (a := s) (b := 0) (by omega) (by omega), (nI_ltI (a := s) (b := 9) (by omega) (by decide)).mpr hs, fun z => h2 ((nI_eq (a := s) (b := 2) (by omega) (by decide)).mp z), fun z => h5 ((nI_eq (a := s) (b := 5) (by omega) (by decide)).mp z), nI_nlt (a := a) (b := 0) (by omega) (by omega), fun z => ?_⟩
  have := (nI_ltI (a := 2) (b := a) (by decide) (by omega)).mp z
  omega
theorem zOkA_x {s : Nat} {a : Int32} (h : s = 2 ∨ s = 5) : ¬ zOkA (nI s) a := fun z => by
  rcases h with rfl | rfl
  · exact z.2.2.1 rfl
  · exact z.2.2.2.1 rfl
theorem zA3 {v : Int32} (h : v = 0 ∨ v = 1 ∨ v = 2) : ¬ v < 0 ∧ ¬ (3 : Int32) ≤ v := by
  rcases h with rfl | rfl | rfl <;> decide
theorem zI3 {a : Nat} (ha : a < 3) : nI a = 0 ∨ nI a = 1 ∨ nI a = 2 := by
  rcases (show a = 0 ∨ a = 1 ∨ a = 2 by omega) with rfl | rfl | rfl
  · exact Or.inl rfl
  · exact Or.inr (Or.inl rfl)
  · exact Or.inr (Or.inr rfl)
theorem zCat7 {σ : zS} {p : Nat} (h2 : zAct σ p 2 ≠ 2) (h5 : zAct σ p 5 ≠ 2) : zCatN σ p 9 < 8 := by
  unfold zCatN
  have e : (List.range 9).filter (fun k => decide (zAct σ p k = 2)) = ((List.range 9).filter (fun k => decide (k ≠ 2 ∧ k ≠ 5))).filter (fun k => decide (zAct σ p k = 2)) := by
    rw [List.filter_filter]
    congr 1
    funext k
    by_cases hk : zAct σ p k = 2
    · have n2 : k ≠ 2 := fun z => h2 (by rw [← z]; exact hk)
      have n5 : k ≠ 5 := fun z => h5 (by rw [← z]; exact hk)
      simp [hk, n2, n5]
    · simp [hk]
  rw [e]
  have h1 := List.length_filter_le (fun k => decide (zAct σ p k = 2)) ((List.range 9).filter (fun k => decide (k ≠ 2 ∧ k ≠ 5)))
  have h7 : ((List.range 9).filter (fun k => decide (k ≠ 2 ∧ k ≠ 5))).length = 7 := by decide
  omega
theorem zCat0 {σ : zS} {p : Nat} : zCatN (zExecN σ p 9) p 9 = 0 := by
  unfold zCatN
  rw [List.length_eq_zero_iff, List.filter_eq_nil_iff]
  intro k hk
  have hk9 := List.mem_range.mp hk
  rw [decide_eq_true_eq]
  show ¬ zExecN σ p 9 9 (9 * p + k) = 2
  rw [zExecN_9]
  split
  · decide
  · rename_i h
    exact fun z => h ⟨hk9, z⟩
set_option maxHeartbeats 4000000 in
set_option maxRecDepth 100000 in
theorem d_act_x (l : Launch) (hl : l.stackTraces = false) (D : va_G) {B G : zG} {x tb ev : Nat} {A : Nat → Nat} {σ : zS} {m0 : Nat} (hC : zCl B x tb ev A σ [] 0 m0 G) (hI : zIv 0 σ []) {b9 Ln t9 w9 v9 a9 d9 k9 : Nat} {xs : Nat → Int32} (hv : v9 < 2 ^ 31) (ha : a9 < 5000) (hd : d9 < 6000) (P0 : zsMet D l yL_part wsL_part ({ frames := 1, cells := 0, slots := 0, locals := 30 } : Room) [.ref b9, .int (nI t9), .int (nI 30)] G b9 Ln xs (fun v G9 => v = some (.int (nI w9)) ∧ G9 = G) (fun _ => False)) (P1 : zsMet D l yL_part wsL_part ({ frames := 1, cells := 0, slots := 0, locals := 30 } : Room) [.ref b9, .int (nI (t9 + 1)), .int (nI 4000)] G b9 Ln xs (fun v G9 => v = some (.int (nI v9)) ∧ G9 = G) (fun _ => False)) (P2 : zsMet D l yL_part wsL_part ({ frames := 1, cells := 0, slots := 0, locals := 30 } : Room) [.ref b9, .int (nI (t9 + 2)), .int (nI 5000)] G b9 Ln xs (fun v G9 => v = some (.int (nI a9)) ∧ G9 = G) (fun _ => False)) (P3 : zsMet D l yL_part wsL_part ({ frames := 1, cells := 0, slots := 0, locals := 30 } : Room) [.ref b9, .int (nI (t9 + 3)), .int (nI 6000)] G b9 Ln xs (fun v G9 => v = some (.int (nI d9)) ∧ G9 = G) (fun _ => False)) (ek : zPid σ 40 (v9 % 40 + 1) = k9)  (h1 : 1 ≤ k9) (hk : k9 < 41) (h0 : σ 0 k9 ≠ 0) (hw : w9 = 25) (hs : a9 % 9 = 2 ∨ a9 % 9 = 5) : zsMet D l yL_isDone wsL_isDone ({ frames := 13, cells := 20, slots := 120, locals := 420 } : Room) [.ref x, .ref b9, .int (nI t9)] G b9 Ln xs (fun v G9 => v = some (.int 1) ∧ zLq B x σ m0 G9) (fun _ => False) := by
  refine zsMet_of (cc := cL_isDone) (maxL := 10) (ret := (some .boolean)) (by decide) rfl (Nat.le_of_ble_eq_true rfl) ?_
  intro p e s m args below meth c C hnx h8 hX hbl hbA
  have hW := hI.wf
  have hTH : zE3 (¬ zHere σ (nI k9)) (¬ zOkA (nI (a9 % 9)) (nI (d9 % 3))) (zNot σ (pn (nI k9))) = 2 := zE3_2 (fun z => z (zHere_n h1 hk h0)) (zOkA_x hs)
  have K215 : zV p l e ({ frames := 13, cells := 20, slots := 120, locals := 420 } : Room) s m args below meth c D (zA G s.heap.size) 0 0 (zxZ below D G (fun v G9 => v = some (.int 1) ∧ zLq B x σ m0 G9) (fun _ => False) args s ({ frames := 13, cells := 20, slots := 120, locals := 420 } : Room)) G 215 [some (.ref x), some (.ref b9), some (.int (nI t9)), some (.int (nI w9)), some (.int (nI k9)), some (.int (nI a9)), some (.int (nI d9)), none, none, none] [.int (zb (¬ zNot σ k9))] := by
    refine zz_istore (pc := 215) C dL_isDone_215 (Nat.le_of_ble_eq_true rfl) ?_
    refine zV.less (L' := [some (.ref (x)), some (.ref (b9)), some (.int (nI t9)), some (.int (nI w9)), some (.int (nI k9)), some (.int (nI a9)), some (.int (nI d9)), some (.int (zb (¬ zNot σ k9))), none, none]) ⟨rfl, rfl, rfl, rfl, rfl, rfl, rfl, rfl, trivial⟩ ?_
    refine zz_iload_n (pc := 217) C dL_isDone_217 rfl ?_
    refine zz_bipush (pc := 218) C (v := 25) (by decide) dL_isDone_218 ?_
    refine zz_icmp_ne (pc := 220) C (tgt := 369) dL_isDone_220 (by decide) (fun hc220 => ?_) (fun hc220 => ?_)
    · exact absurd (by rw [show w9 = 25 by omega]; rfl) hc220
    · refine zz_aload_n (pc := 223) C dL_isDone_223 rfl ?_
      refine zz_iload (pc := 224) C dL_isDone_224 rfl ?_
      refine zz_iload (pc := 226) C dL_isDone_226 rfl ?_
      refine zz_bipush (pc := 228) C (v := 9) (by decide) dL_isDone_228 ?_
      refine zz_irem (pc := 230) C (a := a9) (d := 9) dL_isDone_230 rfl rfl (by omega) (by decide) (by decide) ?_
      refine zz_iload (pc := 231) C dL_isDone_231 rfl ?_
      refine zz_iconst (pc := 233) C (v := 3) (by decide) dL_isDone_233 ?_
      refine zz_irem (pc := 234) C (a := d9) (d := 3) dL_isDone_234 rfl rfl (by omega) (by decide) (by decide) ?_
      refine zzx_callSW (pc := 235) C h8 ((c_L_setsAction l hl D (x9 := nI k9) (s9 := nI (a9 % 9)) (a9 := nI (d9 % 3)) hC hW).imp (fun _ _ z => z.elim (fun y => absurd (hTH.symm.trans y.1) (by decide)) (fun z => z.elim (fun y => absurd (hTH.symm.trans y.1) (by decide)) (fun z => z.elim id (fun z => absurd (hTH.symm.trans z.1) (by decide))))) (fun _ z => z)) gL_isDone_L_setsAction rfl 4 (by decide +kernel) ⟨Nat.le_of_ble_eq_true rfl, Nat.le_of_ble_eq_true rfl⟩ rfl dL_isDone_235 rfl (Nat.le_of_ble_eq_true rfl) rfl ⟨Nat.le_of_ble_eq_true rfl, Nat.le_of_ble_eq_true rfl⟩ (fun E hE => hE.elim) ?_
      rintro v G9 ⟨_, rfl, rfl⟩
      refine zz_istore (pc := 238) C dL_isDone_238 (Nat.le_of_ble_eq_true rfl) ?_
      refine zV.less (L' := [some (.ref (x)), some (.ref (b9)), some (.int (nI t9)), some (.int (nI w9)), some (.int (nI k9)), some (.int (nI a9)), some (.int (nI d9)), some (.int (zb (¬ zNot σ k9))), some (.int (-20)), none]) ⟨rfl, rfl, rfl, rfl, rfl, rfl, rfl, rfl, rfl, trivial⟩ ?_
      refine zz_iload (pc := 240) C dL_isDone_240 rfl ?_
      refine zz_bipush (pc := 242) C (v := 9) (by decide) dL_isDone_242 ?_
      refine zz_irem (pc := 244) C (a := a9) (d := 9) dL_isDone_244 rfl rfl (by omega) (by decide) (by decide) ?_
      refine zz_iconst (pc := 245) C (v := 2) (by decide) dL_isDone_245 ?_
      refine zz_icmp_eq (pc := 246) C (tgt := 262) dL_isDone_246 (by decide) (fun hc246 => ?_) (fun hc246 => ?_)
      · refine zz_iconst (pc := 262) C (v := 0) (by decide) dL_isDone_262 ?_
        refine zz_istore (pc := 263) C dL_isDone_263 (Nat.le_of_ble_eq_true rfl) ?_
        refine zV.less (L' := [some (.ref (x)), some (.ref (b9)), some (.int (nI t9)), some (.int (nI w9)), some (.int (nI k9)), some (.int (nI a9)), some (.int (nI d9)), some (.int (zb (¬ zNot σ k9))), some (.int (-20)), some (.int (0))]) ⟨rfl, rfl, rfl, rfl, rfl, rfl, rfl, rfl, rfl, rfl, trivial⟩ ?_
        refine zz_iload (pc := 265) C dL_isDone_265 rfl ?_
        refine zz_if_ne (pc := 267) C (tgt := 285) dL_isDone_267 (by decide) (fun hc267 => ?_) (fun hc267 => ?_)
        · exact absurd rfl hc267
        · refine zz_iload (pc := 270) C dL_isDone_270 rfl ?_
          refine zz_bipush (pc := 272) C (v := -20) (by decide) dL_isDone_272 ?_
          refine zz_icmp_ne (pc := 274) C (tgt := 281) dL_isDone_274 (by decide) (fun hc274 => ?_) (fun hc274 => ?_)
          · exact absurd rfl hc274
          · refine zz_iconst (pc := 277) C (v := 1) (by decide) dL_isDone_277 ?_
            refine zz_goto (pc := 278) C (tgt := 368) dL_isDone_278 (by decide) ?_
            exact zzx_ret (zz_ireturn (pc := 368) C dL_isDone_368 (by first | rfl | exact zb_nar) (Nat.le_of_ble_eq_true rfl) (Nat.le_of_ble_eq_true rfl) ⟨rfl, ⟨tb, ev, A, hC⟩⟩)
      · refine zz_iload (pc := 249) C dL_isDone_249 rfl ?_
        refine zz_bipush (pc := 251) C (v := 9) (by decide) dL_isDone_251 ?_
        refine zz_irem (pc := 253) C (a := a9) (d := 9) dL_isDone_253 rfl rfl (by omega) (by decide) (by decide) ?_
        refine zz_iconst (pc := 254) C (v := 5) (by decide) dL_isDone_254 ?_
        refine zz_icmp_eq (pc := 255) C (tgt := 262) dL_isDone_255 (by decide) (fun hc255 => ?_) (fun hc255 => ?_)
        · refine zz_iconst (pc := 262) C (v := 0) (by decide) dL_isDone_262 ?_
          refine zz_istore (pc := 263) C dL_isDone_263 (Nat.le_of_ble_eq_true rfl) ?_
          refine zV.less (L' := [some (.ref (x)), some (.ref (b9)), some (.int (nI t9)), some (.int (nI w9)), some (.int (nI k9)), some (.int (nI a9)), some (.int (nI d9)), some (.int (zb (¬ zNot σ k9))), some (.int (-20)), some (.int (0))]) ⟨rfl, rfl, rfl, rfl, rfl, rfl, rfl, rfl, rfl, rfl, trivial⟩ ?_
          refine zz_iload (pc := 265) C dL_isDone_265 rfl ?_
          refine zz_if_ne (pc := 267) C (tgt := 285) dL_isDone_267 (by decide) (fun hc267 => ?_) (fun hc267 => ?_)
          · exact absurd rfl hc267
          · refine zz_iload (pc := 270) C dL_isDone_270 rfl ?_
            refine zz_bipush (pc := 272) C (v := -20) (by decide) dL_isDone_272 ?_
            refine zz_icmp_ne (pc := 274) C (tgt := 281) dL_isDone_274 (by decide) (fun hc274 => ?_) (fun hc274 => ?_)
            · exact absurd rfl hc274
            · refine zz_iconst (pc := 277) C (v := 1) (by decide) dL_isDone_277 ?_
              refine zz_goto (pc := 278) C (tgt := 368) dL_isDone_278 (by decide) ?_
              exact zzx_ret (zz_ireturn (pc := 368) C dL_isDone_368 (by first | rfl | exact zb_nar) (Nat.le_of_ble_eq_true rfl) (Nat.le_of_ble_eq_true rfl) ⟨rfl, ⟨tb, ev, A, hC⟩⟩)
        · exact absurd ((hs.resolve_left (fun z => hc246 (by rw [z]; rfl)))) (fun z => hc255 (by rw [z]; rfl))
  refine t_L_isDone l D hC (rm := ({ frames := 12, cells := 20, slots := 120, locals := 340 } : Room)) C h8 hX hbl hbA hW hv P0 P1 P2 P3 ?_
  rw [ek]
  refine zz_iload_n (pc := 48) C dL_isDone_48 rfl ?_
  refine zz_bipush (pc := 49) C (v := 8) (by decide) dL_isDone_49 ?_
  refine zz_icmp_ge (pc := 51) C (tgt := 61) dL_isDone_51 (by decide) (fun hc51 => ?_) (fun hc51 => ?_)
  · refine zz_iload_n (pc := 61) C dL_isDone_61 rfl ?_
    refine zz_bipush (pc := 62) C (v := 10) (by decide) dL_isDone_62 ?_
    refine zz_icmp_ge (pc := 64) C (tgt := 80) dL_isDone_64 (by decide) (fun hc64 => ?_) (fun hc64 => ?_)
    · refine zz_iload_n (pc := 80) C dL_isDone_80 rfl ?_
      refine zz_bipush (pc := 81) C (v := 13) (by decide) dL_isDone_81 ?_
      refine zz_icmp_ge (pc := 83) C (tgt := 121) dL_isDone_83 (by decide) (fun hc83 => ?_) (fun hc83 => ?_)
      · refine zz_iload_n (pc := 121) C dL_isDone_121 rfl ?_
        refine zz_bipush (pc := 122) C (v := 18) (by decide) dL_isDone_122 ?_
        refine zz_icmp_ge (pc := 124) C (tgt := 139) dL_isDone_124 (by decide) (fun hc124 => ?_) (fun hc124 => ?_)
        · refine zz_iload_n (pc := 139) C dL_isDone_139 rfl ?_
          refine zz_bipush (pc := 140) C (v := 21) (by decide) dL_isDone_140 ?_
          refine zz_icmp_ge (pc := 142) C (tgt := 165) dL_isDone_142 (by decide) (fun hc142 => ?_) (fun hc142 => ?_)
          · refine zz_iload_n (pc := 165) C dL_isDone_165 rfl ?_
            refine zz_bipush (pc := 166) C (v := 23) (by decide) dL_isDone_166 ?_
            refine zz_icmp_ge (pc := 168) C (tgt := 178) dL_isDone_168 (by decide) (fun hc168 => ?_) (fun hc168 => ?_)
            · refine zz_iload_n (pc := 178) C dL_isDone_178 rfl ?_
              refine zz_bipush (pc := 179) C (v := 25) (by decide) dL_isDone_179 ?_
              refine zz_icmp_ge (pc := 181) C (tgt := 195) dL_isDone_181 (by decide) (fun hc181 => ?_) (fun hc181 => ?_)
              · refine zz_iload (pc := 195) C dL_isDone_195 rfl ?_
                refine zz_iconst (pc := 197) C (v := 1) (by decide) dL_isDone_197 ?_
                refine zz_icmp_le (pc := 198) C (tgt := 214) dL_isDone_198 (by decide) (fun hc198 => ?_) (fun hc198 => ?_)
                · refine zz_iconst (pc := 214) C (v := 0) (by decide) dL_isDone_214 ?_
                  exact zV.less (L' := [some (.ref x), some (.ref b9), some (.int (nI t9)), some (.int (nI w9)), some (.int (nI k9)), some (.int (nI a9)), some (.int (nI d9)), none, none, none]) ⟨rfl, rfl, rfl, rfl, rfl, rfl, rfl, trivial⟩ (zV.topK K215 ((zb_f (fun z => z (Or.inl (zLe1 h1 hk hc198)))).symm))
                · refine zz_aload_n (pc := 201) C dL_isDone_201 rfl ?_
                  refine zz_iload (pc := 202) C dL_isDone_202 rfl ?_
                  refine zz_callV (pc := 204) C (q_state l D hC h1 hk h0) gL_isDone_X2_state rfl 1 (by decide +kernel) ⟨Nat.le_of_ble_eq_true rfl, Nat.le_of_ble_eq_true rfl⟩ hC.x (ci := 2) rfl rfl rfl dL_isDone_204 rfl (Nat.le_of_ble_eq_true rfl) rfl ⟨Nat.le_of_ble_eq_true rfl, Nat.le_of_ble_eq_true rfl⟩ ?_
                  rintro v G9 ⟨rfl, rfl⟩
                  refine zz_if_ne (pc := 207) C (tgt := 214) dL_isDone_207 (by decide) (fun hc207 => ?_) (fun hc207 => ?_)
                  · refine zz_iconst (pc := 214) C (v := 0) (by decide) dL_isDone_214 ?_
                    exact zV.less (L' := [some (.ref x), some (.ref b9), some (.int (nI t9)), some (.int (nI w9)), some (.int (nI k9)), some (.int (nI a9)), some (.int (nI d9)), none, none, none]) ⟨rfl, rfl, rfl, rfl, rfl, rfl, rfl, trivial⟩ (zV.topK K215 ((zb_f (fun z => z (Or.inr (fun y => hc207 (zCon_0.mpr y))))).symm))
                  · refine zz_iconst (pc := 210) C (v := 1) (by decide) dL_isDone_210 ?_
                    refine zz_goto (pc := 211) C (tgt := 215) dL_isDone_211 (by decide) ?_
                    exact zV.less (L' := [some (.ref x), some (.ref b9), some (.int (nI t9)), some (.int (nI w9)), some (.int (nI k9)), some (.int (nI a9)), some (.int (nI d9)), none, none, none]) ⟨rfl, rfl, rfl, rfl, rfl, rfl, rfl, trivial⟩ (zV.topK K215 ((zb_t (show ¬ zNot σ k9 from fun z => z.elim (fun y => hc198 (by rw [y]; decide)) (fun y => y (zCon_0.mp (Classical.not_not.mp hc207))))).symm))
              · exact absurd ((nI_leI (a := 25) (b := w9) (by decide) (by omega)).mpr (by omega)) hc181
            · exact absurd ((nI_leI (a := 23) (b := w9) (by decide) (by omega)).mpr (by omega)) hc168
          · exact absurd ((nI_leI (a := 21) (b := w9) (by decide) (by omega)).mpr (by omega)) hc142
        · exact absurd ((nI_leI (a := 18) (b := w9) (by decide) (by omega)).mpr (by omega)) hc124
      · exact absurd ((nI_leI (a := 13) (b := w9) (by decide) (by omega)).mpr (by omega)) hc83
    · exact absurd ((nI_leI (a := 10) (b := w9) (by decide) (by omega)).mpr (by omega)) hc64
  · exact absurd ((nI_leI (a := 8) (b := w9) (by decide) (by omega)).mpr (by omega)) hc51
set_option maxHeartbeats 4000000 in
set_option maxRecDepth 100000 in
theorem d_act_n (l : Launch) (hl : l.stackTraces = false) (D : va_G) {B G : zG} {x tb ev : Nat} {A : Nat → Nat} {σ : zS} {m0 : Nat} (hC : zCl B x tb ev A σ [] 0 m0 G) (hI : zIv 0 σ []) {b9 Ln t9 w9 v9 a9 d9 k9 : Nat} {xs : Nat → Int32} (hv : v9 < 2 ^ 31) (ha : a9 < 5000) (hd : d9 < 6000) (P0 : zsMet D l yL_part wsL_part ({ frames := 1, cells := 0, slots := 0, locals := 30 } : Room) [.ref b9, .int (nI t9), .int (nI 30)] G b9 Ln xs (fun v G9 => v = some (.int (nI w9)) ∧ G9 = G) (fun _ => False)) (P1 : zsMet D l yL_part wsL_part ({ frames := 1, cells := 0, slots := 0, locals := 30 } : Room) [.ref b9, .int (nI (t9 + 1)), .int (nI 4000)] G b9 Ln xs (fun v G9 => v = some (.int (nI v9)) ∧ G9 = G) (fun _ => False)) (P2 : zsMet D l yL_part wsL_part ({ frames := 1, cells := 0, slots := 0, locals := 30 } : Room) [.ref b9, .int (nI (t9 + 2)), .int (nI 5000)] G b9 Ln xs (fun v G9 => v = some (.int (nI a9)) ∧ G9 = G) (fun _ => False)) (P3 : zsMet D l yL_part wsL_part ({ frames := 1, cells := 0, slots := 0, locals := 30 } : Room) [.ref b9, .int (nI (t9 + 3)), .int (nI 6000)] G b9 Ln xs (fun v G9 => v = some (.int (nI d9)) ∧ G9 = G) (fun _ => False)) (ek : zPid σ 40 (v9 % 40 + 1) = k9)  (h1 : 1 ≤ k9) (hk : k9 < 41) (h0 : σ 0 k9 ≠ 0) (hw : w9 = 25) (n2 : a9 % 9 ≠ 2) (n5 : a9 % 9 ≠ 5) (hn : zNot σ k9) : zsMet D l yL_isDone wsL_isDone ({ frames := 13, cells := 20, slots := 120, locals := 420 } : Room) [.ref x, .ref b9, .int (nI t9)] G b9 Ln xs (fun v G9 => v = some (.int 1) ∧ zLq B x σ m0 G9) (fun _ => False) := by
  refine zsMet_of (cc := cL_isDone) (maxL := 10) (ret := (some .boolean)) (by decide) rfl (Nat.le_of_ble_eq_true rfl) ?_
  intro p e s m args below meth c C hnx h8 hX hbl hbA
  have hW := hI.wf
  have hTH : zE3 (¬ zHere σ (nI k9)) (¬ zOkA (nI (a9 % 9)) (nI (d9 % 3))) (zNot σ (pn (nI k9))) = 3 := zE3_3 (fun z => z (zHere_n h1 hk h0)) (fun z => z (zOkA_n (Nat.mod_lt _ (by decide)) n2 n5 (Nat.mod_lt _ (by decide)))) (by rw [pnn hk]; exact hn)
  have K215 : zV p l e ({ frames := 13, cells := 20, slots := 120, locals := 420 } : Room) s m args below meth c D (zA G s.heap.size) 0 0 (zxZ below D G (fun v G9 => v = some (.int 1) ∧ zLq B x σ m0 G9) (fun _ => False) args s ({ frames := 13, cells := 20, slots := 120, locals := 420 } : Room)) G 215 [some (.ref x), some (.ref b9), some (.int (nI t9)), some (.int (nI w9)), some (.int (nI k9)), some (.int (nI a9)), some (.int (nI d9)), none, none, none] [.int (zb (¬ zNot σ k9))] := by
    refine zz_istore (pc := 215) C dL_isDone_215 (Nat.le_of_ble_eq_true rfl) ?_
    refine zV.less (L' := [some (.ref (x)), some (.ref (b9)), some (.int (nI t9)), some (.int (nI w9)), some (.int (nI k9)), some (.int (nI a9)), some (.int (nI d9)), some (.int (zb (¬ zNot σ k9))), none, none]) ⟨rfl, rfl, rfl, rfl, rfl, rfl, rfl, rfl, trivial⟩ ?_
    refine zz_iload_n (pc := 217) C dL_isDone_217 rfl ?_
    refine zz_bipush (pc := 218) C (v := 25) (by decide) dL_isDone_218 ?_
    refine zz_icmp_ne (pc := 220) C (tgt := 369) dL_isDone_220 (by decide) (fun hc220 => ?_) (fun hc220 => ?_)
    · exact absurd (by rw [show w9 = 25 by omega]; rfl) hc220
    · refine zz_aload_n (pc := 223) C dL_isDone_223 rfl ?_
      refine zz_iload (pc := 224) C dL_isDone_224 rfl ?_
      refine zz_iload (pc := 226) C dL_isDone_226 rfl ?_
      refine zz_bipush (pc := 228) C (v := 9) (by decide) dL_isDone_228 ?_
      refine zz_irem (pc := 230) C (a := a9) (d := 9) dL_isDone_230 rfl rfl (by omega) (by decide) (by decide) ?_
      refine zz_iload (pc := 231) C dL_isDone_231 rfl ?_
      refine zz_iconst (pc := 233) C (v := 3) (by decide) dL_isDone_233 ?_
      refine zz_irem (pc := 234) C (a := d9) (d := 3) dL_isDone_234 rfl rfl (by omega) (by decide) (by decide) ?_
      refine zzx_callSW (pc := 235) C h8 ((c_L_setsAction l hl D (x9 := nI k9) (s9 := nI (a9 % 9)) (a9 := nI (d9 % 3)) hC hW).imp (fun _ _ z => z.elim (fun y => absurd (hTH.symm.trans y.1) (by decide)) (fun z => z.elim (fun y => absurd (hTH.symm.trans y.1) (by decide)) (fun z => z.elim (fun y => absurd (hTH.symm.trans y.1) (by decide)) (fun z => z)))) (fun _ z => z)) gL_isDone_L_setsAction rfl 4 (by decide +kernel) ⟨Nat.le_of_ble_eq_true rfl, Nat.le_of_ble_eq_true rfl⟩ rfl dL_isDone_235 rfl (Nat.le_of_ble_eq_true rfl) rfl ⟨Nat.le_of_ble_eq_true rfl, Nat.le_of_ble_eq_true rfl⟩ (fun E hE => hE.elim) ?_
      rintro v G9 ⟨_, rfl, rfl⟩
      refine zz_istore (pc := 238) C dL_isDone_238 (Nat.le_of_ble_eq_true rfl) ?_
      refine zV.less (L' := [some (.ref (x)), some (.ref (b9)), some (.int (nI t9)), some (.int (nI w9)), some (.int (nI k9)), some (.int (nI a9)), some (.int (nI d9)), some (.int (zb (¬ zNot σ k9))), some (.int (-10)), none]) ⟨rfl, rfl, rfl, rfl, rfl, rfl, rfl, rfl, rfl, trivial⟩ ?_
      refine zz_iload (pc := 240) C dL_isDone_240 rfl ?_
      refine zz_bipush (pc := 242) C (v := 9) (by decide) dL_isDone_242 ?_
      refine zz_irem (pc := 244) C (a := a9) (d := 9) dL_isDone_244 rfl rfl (by omega) (by decide) (by decide) ?_
      refine zz_iconst (pc := 245) C (v := 2) (by decide) dL_isDone_245 ?_
      refine zz_icmp_eq (pc := 246) C (tgt := 262) dL_isDone_246 (by decide) (fun hc246 => ?_) (fun hc246 => ?_)
      · exact absurd ((nI_eq (a := a9 % 9) (b := 2) (by omega) (by decide)).mp hc246) n2
      · refine zz_iload (pc := 249) C dL_isDone_249 rfl ?_
        refine zz_bipush (pc := 251) C (v := 9) (by decide) dL_isDone_251 ?_
        refine zz_irem (pc := 253) C (a := a9) (d := 9) dL_isDone_253 rfl rfl (by omega) (by decide) (by decide) ?_
        refine zz_iconst (pc := 254) C (v := 5) (by decide) dL_isDone_254 ?_
        refine zz_icmp_eq (pc := 255) C (tgt := 262) dL_isDone_255 (by decide) (fun hc255 => ?_) (fun hc255 => ?_)
        · exact absurd ((nI_eq (a := a9 % 9) (b := 5) (by omega) (by decide)).mp hc255) n5
        · refine zz_iconst (pc := 258) C (v := 1) (by decide) dL_isDone_258 ?_
          refine zz_goto (pc := 259) C (tgt := 263) dL_isDone_259 (by decide) ?_
          refine zz_istore (pc := 263) C dL_isDone_263 (Nat.le_of_ble_eq_true rfl) ?_
          refine zV.less (L' := [some (.ref (x)), some (.ref (b9)), some (.int (nI t9)), some (.int (nI w9)), some (.int (nI k9)), some (.int (nI a9)), some (.int (nI d9)), some (.int (zb (¬ zNot σ k9))), some (.int (-10)), some (.int (1))]) ⟨rfl, rfl, rfl, rfl, rfl, rfl, rfl, rfl, rfl, rfl, trivial⟩ ?_
          refine zz_iload (pc := 265) C dL_isDone_265 rfl ?_
          refine zz_if_ne (pc := 267) C (tgt := 285) dL_isDone_267 (by decide) (fun hc267 => ?_) (fun hc267 => ?_)
          · refine zz_iload (pc := 285) C dL_isDone_285 rfl ?_
            refine zz_if_ne (pc := 287) C (tgt := 305) dL_isDone_287 (by decide) (fun hc287 => ?_) (fun hc287 => ?_)
            · exact absurd hn (zb_ne.mp hc287)
            · refine zz_iload (pc := 290) C dL_isDone_290 rfl ?_
              refine zz_bipush (pc := 292) C (v := -10) (by decide) dL_isDone_292 ?_
              refine zz_icmp_ne (pc := 294) C (tgt := 301) dL_isDone_294 (by decide) (fun hc294 => ?_) (fun hc294 => ?_)
              · exact absurd rfl hc294
              · refine zz_iconst (pc := 297) C (v := 1) (by decide) dL_isDone_297 ?_
                refine zz_goto (pc := 298) C (tgt := 368) dL_isDone_298 (by decide) ?_
                exact zzx_ret (zz_ireturn (pc := 368) C dL_isDone_368 (by first | rfl | exact zb_nar) (Nat.le_of_ble_eq_true rfl) (Nat.le_of_ble_eq_true rfl) ⟨rfl, ⟨tb, ev, A, hC⟩⟩)
          · exact absurd (by decide) hc267
  refine t_L_isDone l D hC (rm := ({ frames := 12, cells := 20, slots := 120, locals := 340 } : Room)) C h8 hX hbl hbA hW hv P0 P1 P2 P3 ?_
  rw [ek]
  refine zz_iload_n (pc := 48) C dL_isDone_48 rfl ?_
  refine zz_bipush (pc := 49) C (v := 8) (by decide) dL_isDone_49 ?_
  refine zz_icmp_ge (pc := 51) C (tgt := 61) dL_isDone_51 (by decide) (fun hc51 => ?_) (fun hc51 => ?_)
  · refine zz_iload_n (pc := 61) C dL_isDone_61 rfl ?_
    refine zz_bipush (pc := 62) C (v := 10) (by decide) dL_isDone_62 ?_
    refine zz_icmp_ge (pc := 64) C (tgt := 80) dL_isDone_64 (by decide) (fun hc64 => ?_) (fun hc64 => ?_)
    · refine zz_iload_n (pc := 80) C dL_isDone_80 rfl ?_
      refine zz_bipush (pc := 81) C (v := 13) (by decide) dL_isDone_81 ?_
      refine zz_icmp_ge (pc := 83) C (tgt := 121) dL_isDone_83 (by decide) (fun hc83 => ?_) (fun hc83 => ?_)
      · refine zz_iload_n (pc := 121) C dL_isDone_121 rfl ?_
        refine zz_bipush (pc := 122) C (v := 18) (by decide) dL_isDone_122 ?_
        refine zz_icmp_ge (pc := 124) C (tgt := 139) dL_isDone_124 (by decide) (fun hc124 => ?_) (fun hc124 => ?_)
        · refine zz_iload_n (pc := 139) C dL_isDone_139 rfl ?_
          refine zz_bipush (pc := 140) C (v := 21) (by decide) dL_isDone_140 ?_
          refine zz_icmp_ge (pc := 142) C (tgt := 165) dL_isDone_142 (by decide) (fun hc142 => ?_) (fun hc142 => ?_)
          · refine zz_iload_n (pc := 165) C dL_isDone_165 rfl ?_
            refine zz_bipush (pc := 166) C (v := 23) (by decide) dL_isDone_166 ?_
            refine zz_icmp_ge (pc := 168) C (tgt := 178) dL_isDone_168 (by decide) (fun hc168 => ?_) (fun hc168 => ?_)
            · refine zz_iload_n (pc := 178) C dL_isDone_178 rfl ?_
              refine zz_bipush (pc := 179) C (v := 25) (by decide) dL_isDone_179 ?_
              refine zz_icmp_ge (pc := 181) C (tgt := 195) dL_isDone_181 (by decide) (fun hc181 => ?_) (fun hc181 => ?_)
              · refine zz_iload (pc := 195) C dL_isDone_195 rfl ?_
                refine zz_iconst (pc := 197) C (v := 1) (by decide) dL_isDone_197 ?_
                refine zz_icmp_le (pc := 198) C (tgt := 214) dL_isDone_198 (by decide) (fun hc198 => ?_) (fun hc198 => ?_)
                · refine zz_iconst (pc := 214) C (v := 0) (by decide) dL_isDone_214 ?_
                  exact zV.less (L' := [some (.ref x), some (.ref b9), some (.int (nI t9)), some (.int (nI w9)), some (.int (nI k9)), some (.int (nI a9)), some (.int (nI d9)), none, none, none]) ⟨rfl, rfl, rfl, rfl, rfl, rfl, rfl, trivial⟩ (zV.topK K215 ((zb_f (fun z => z (Or.inl (zLe1 h1 hk hc198)))).symm))
                · refine zz_aload_n (pc := 201) C dL_isDone_201 rfl ?_
                  refine zz_iload (pc := 202) C dL_isDone_202 rfl ?_
                  refine zz_callV (pc := 204) C (q_state l D hC h1 hk h0) gL_isDone_X2_state rfl 1 (by decide +kernel) ⟨Nat.le_of_ble_eq_true rfl, Nat.le_of_ble_eq_true rfl⟩ hC.x (ci := 2) rfl rfl rfl dL_isDone_204 rfl (Nat.le_of_ble_eq_true rfl) rfl ⟨Nat.le_of_ble_eq_true rfl, Nat.le_of_ble_eq_true rfl⟩ ?_
                  rintro v G9 ⟨rfl, rfl⟩
                  refine zz_if_ne (pc := 207) C (tgt := 214) dL_isDone_207 (by decide) (fun hc207 => ?_) (fun hc207 => ?_)
                  · refine zz_iconst (pc := 214) C (v := 0) (by decide) dL_isDone_214 ?_
                    exact zV.less (L' := [some (.ref x), some (.ref b9), some (.int (nI t9)), some (.int (nI w9)), some (.int (nI k9)), some (.int (nI a9)), some (.int (nI d9)), none, none, none]) ⟨rfl, rfl, rfl, rfl, rfl, rfl, rfl, trivial⟩ (zV.topK K215 ((zb_f (fun z => z (Or.inr (fun y => hc207 (zCon_0.mpr y))))).symm))
                  · refine zz_iconst (pc := 210) C (v := 1) (by decide) dL_isDone_210 ?_
                    refine zz_goto (pc := 211) C (tgt := 215) dL_isDone_211 (by decide) ?_
                    exact zV.less (L' := [some (.ref x), some (.ref b9), some (.int (nI t9)), some (.int (nI w9)), some (.int (nI k9)), some (.int (nI a9)), some (.int (nI d9)), none, none, none]) ⟨rfl, rfl, rfl, rfl, rfl, rfl, rfl, trivial⟩ (zV.topK K215 ((zb_t (show ¬ zNot σ k9 from fun z => z.elim (fun y => hc198 (by rw [y]; decide)) (fun y => y (zCon_0.mp (Classical.not_not.mp hc207))))).symm))
              · exact absurd ((nI_leI (a := 25) (b := w9) (by decide) (by omega)).mpr (by omega)) hc181
            · exact absurd ((nI_leI (a := 23) (b := w9) (by decide) (by omega)).mpr (by omega)) hc168
          · exact absurd ((nI_leI (a := 21) (b := w9) (by decide) (by omega)).mpr (by omega)) hc142
        · exact absurd ((nI_leI (a := 18) (b := w9) (by decide) (by omega)).mpr (by omega)) hc124
      · exact absurd ((nI_leI (a := 13) (b := w9) (by decide) (by omega)).mpr (by omega)) hc83
    · exact absurd ((nI_leI (a := 10) (b := w9) (by decide) (by omega)).mpr (by omega)) hc64
  · exact absurd ((nI_leI (a := 8) (b := w9) (by decide) (by omega)).mpr (by omega)) hc51
set_option maxHeartbeats 4000000 in
set_option maxRecDepth 100000 in
theorem d_act_y (l : Launch) (hl : l.stackTraces = false) (D : va_G) {B G : zG} {x tb ev : Nat} {A : Nat → Nat} {σ : zS} {m0 : Nat} (hC : zCl B x tb ev A σ [] 0 m0 G) (hI : zIv 0 σ []) {b9 Ln t9 w9 v9 a9 d9 k9 : Nat} {xs : Nat → Int32} (hv : v9 < 2 ^ 31) (ha : a9 < 5000) (hd : d9 < 6000) (P0 : zsMet D l yL_part wsL_part ({ frames := 1, cells := 0, slots := 0, locals := 30 } : Room) [.ref b9, .int (nI t9), .int (nI 30)] G b9 Ln xs (fun v G9 => v = some (.int (nI w9)) ∧ G9 = G) (fun _ => False)) (P1 : zsMet D l yL_part wsL_part ({ frames := 1, cells := 0, slots := 0, locals := 30 } : Room) [.ref b9, .int (nI (t9 + 1)), .int (nI 4000)] G b9 Ln xs (fun v G9 => v = some (.int (nI v9)) ∧ G9 = G) (fun _ => False)) (P2 : zsMet D l yL_part wsL_part ({ frames := 1, cells := 0, slots := 0, locals := 30 } : Room) [.ref b9, .int (nI (t9 + 2)), .int (nI 5000)] G b9 Ln xs (fun v G9 => v = some (.int (nI a9)) ∧ G9 = G) (fun _ => False)) (P3 : zsMet D l yL_part wsL_part ({ frames := 1, cells := 0, slots := 0, locals := 30 } : Room) [.ref b9, .int (nI (t9 + 3)), .int (nI 6000)] G b9 Ln xs (fun v G9 => v = some (.int (nI d9)) ∧ G9 = G) (fun _ => False)) (ek : zPid σ 40 (v9 % 40 + 1) = k9) {τ τ2 : zS} (h1 : 1 ≤ k9) (hk : k9 < 41) (h0 : σ 0 k9 ≠ 0) (hw : w9 = 25) (n2 : a9 % 9 ≠ 2) (n5 : a9 % 9 ≠ 5) (hn : ¬ zNot σ k9) (hτ : zSetA σ k9 (nI (a9 % 9)) (nI (d9 % 3)) = τ) (hτ2 : zSetA τ k9 (nI (a9 % 9)) (nI (d9 % 3)) = τ2) : zsMet D l yL_isDone wsL_isDone ({ frames := 13, cells := 20, slots := 120, locals := 420 } : Room) [.ref x, .ref b9, .int (nI t9)] G b9 Ln xs (fun v G9 => v = some (.int 1) ∧ zLq B x τ2 m0 G9) (fun _ => False) := by
  refine zsMet_of (cc := cL_isDone) (maxL := 10) (ret := (some .boolean)) (by decide) rfl (Nat.le_of_ble_eq_true rfl) ?_
  intro p e s m args below meth c C hnx h8 hX hbl hbA
  have hW := hI.wf
  have hs9 : a9 % 9 < 9 := Nat.mod_lt _ (by decide)
  have es : pn (nI (a9 % 9)) = a9 % 9 := nI_clamp (by omega)
  have ha3 := zI3 (Nat.mod_lt d9 (show 0 < 3 by decide))
  have hI1 : zIv 0 τ [] := by rw [← hτ]; exact hI.setA (by rw [es]; exact hs9) (by rw [es]; exact n2) (by rw [es]; exact n5) ha3
  have q := zSetA_k (σ := σ) (p := k9) (a := nI (d9 % 3)) hs9
  rw [hτ] at q
  have qq := zSetA_k (σ := τ) (p := k9) (a := nI (d9 % 3)) hs9
  rw [hτ2] at qq
  have q0 : τ 0 k9 ≠ 0 := by rw [q.2.1]; exact h0
  have q02 : τ2 0 k9 ≠ 0 := by rw [qq.2.1]; exact q0
  have q9 : τ 9 (9 * k9 + a9 % 9) = nI (d9 % 3) := q.1
  have hn1 : ¬ zNot τ k9 := by unfold zNot zRunN; rw [q.2.2.1, q.2.2.2.1, q.2.2.2.2.1]; exact hn
  have hact : σ 9 (9 * k9 + a9 % 9) = 0 ∨ σ 9 (9 * k9 + a9 % 9) = 1 ∨ σ 9 (9 * k9 + a9 % 9) = 2 := (hW.1 k9 h0).2.2.2.2 _ hs9
  have hTH : zE3 (¬ zHere σ (nI k9)) (¬ zOkA (nI (a9 % 9)) (nI (d9 % 3))) (zNot σ (pn (nI k9))) = 0 := zE3_0 (fun z => z (zHere_n h1 hk h0)) (fun z => z (zOkA_n hs9 n2 n5 (Nat.mod_lt _ (by decide)))) (by rw [pnn hk]; exact hn)
  have hTH2 : zE3 (¬ zHere τ (nI k9)) (¬ zOkA (nI (a9 % 9)) (nI (d9 % 3))) (zNot τ (pn (nI k9))) = 0 := zE3_0 (fun z => z (zHere_n h1 hk q0)) (fun z => z (zOkA_n (Nat.mod_lt _ (by decide)) n2 n5 (Nat.mod_lt _ (by decide)))) (by rw [pnn hk]; exact hn1)
  have K215 : zV p l e ({ frames := 13, cells := 20, slots := 120, locals := 420 } : Room) s m args below meth c D (zA G s.heap.size) 0 0 (zxZ below D G (fun v G9 => v = some (.int 1) ∧ zLq B x τ2 m0 G9) (fun _ => False) args s ({ frames := 13, cells := 20, slots := 120, locals := 420 } : Room)) G 215 [some (.ref x), some (.ref b9), some (.int (nI t9)), some (.int (nI w9)), some (.int (nI k9)), some (.int (nI a9)), some (.int (nI d9)), none, none, none] [.int (zb (¬ zNot σ k9))] := by
    refine zz_istore (pc := 215) C dL_isDone_215 (Nat.le_of_ble_eq_true rfl) ?_
    refine zV.less (L' := [some (.ref (x)), some (.ref (b9)), some (.int (nI t9)), some (.int (nI w9)), some (.int (nI k9)), some (.int (nI a9)), some (.int (nI d9)), some (.int (zb (¬ zNot σ k9))), none, none]) ⟨rfl, rfl, rfl, rfl, rfl, rfl, rfl, rfl, trivial⟩ ?_
    refine zz_iload_n (pc := 217) C dL_isDone_217 rfl ?_
    refine zz_bipush (pc := 218) C (v := 25) (by decide) dL_isDone_218 ?_
    refine zz_icmp_ne (pc := 220) C (tgt := 369) dL_isDone_220 (by decide) (fun hc220 => ?_) (fun hc220 => ?_)
    · exact absurd (by rw [show w9 = 25 by omega]; rfl) hc220
    · refine zz_aload_n (pc := 223) C dL_isDone_223 rfl ?_
      refine zz_iload (pc := 224) C dL_isDone_224 rfl ?_
      refine zz_iload (pc := 226) C dL_isDone_226 rfl ?_
      refine zz_bipush (pc := 228) C (v := 9) (by decide) dL_isDone_228 ?_
      refine zz_irem (pc := 230) C (a := a9) (d := 9) dL_isDone_230 rfl rfl (by omega) (by decide) (by decide) ?_
      refine zz_iload (pc := 231) C dL_isDone_231 rfl ?_
      refine zz_iconst (pc := 233) C (v := 3) (by decide) dL_isDone_233 ?_
      refine zz_irem (pc := 234) C (a := d9) (d := 3) dL_isDone_234 rfl rfl (by omega) (by decide) (by decide) ?_
      refine zzx_callSW (pc := 235) C h8 ((c_L_setsAction l hl D (x9 := nI k9) (s9 := nI (a9 % 9)) (a9 := nI (d9 % 3)) hC hW).imp (fun _ _ z => z.elim id (fun z => z.elim (fun y => absurd (hTH.symm.trans y.1) (by decide)) (fun z => z.elim (fun y => absurd (hTH.symm.trans y.1) (by decide)) (fun z => absurd (hTH.symm.trans z.1) (by decide))))) (fun _ z => z)) gL_isDone_L_setsAction rfl 4 (by decide +kernel) ⟨Nat.le_of_ble_eq_true rfl, Nat.le_of_ble_eq_true rfl⟩ rfl dL_isDone_235 rfl (Nat.le_of_ble_eq_true rfl) rfl ⟨Nat.le_of_ble_eq_true rfl, Nat.le_of_ble_eq_true rfl⟩ (fun E hE => hE.elim) ?_
      rintro v G9 ⟨_, rfl, hC1⟩
      rw [pnn hk, es]
      rw [pnn hk, hτ] at hC1
      refine zz_istore (pc := 238) C dL_isDone_238 (Nat.le_of_ble_eq_true rfl) ?_
      refine zV.less (L' := [some (.ref (x)), some (.ref (b9)), some (.int (nI t9)), some (.int (nI w9)), some (.int (nI k9)), some (.int (nI a9)), some (.int (nI d9)), some (.int (zb (¬ zNot σ k9))), some (.int (σ 9 (9 * k9 + a9 % 9))), none]) ⟨rfl, rfl, rfl, rfl, rfl, rfl, rfl, rfl, rfl, trivial⟩ ?_
      refine zz_iload (pc := 240) C dL_isDone_240 rfl ?_
      refine zz_bipush (pc := 242) C (v := 9) (by decide) dL_isDone_242 ?_
      refine zz_irem (pc := 244) C (a := a9) (d := 9) dL_isDone_244 rfl rfl (by omega) (by decide) (by decide) ?_
      refine zz_iconst (pc := 245) C (v := 2) (by decide) dL_isDone_245 ?_
      refine zz_icmp_eq (pc := 246) C (tgt := 262) dL_isDone_246 (by decide) (fun hc246 => ?_) (fun hc246 => ?_)
      · exact absurd ((nI_eq (a := a9 % 9) (b := 2) (by omega) (by decide)).mp hc246) n2
      · refine zz_iload (pc := 249) C dL_isDone_249 rfl ?_
        refine zz_bipush (pc := 251) C (v := 9) (by decide) dL_isDone_251 ?_
        refine zz_irem (pc := 253) C (a := a9) (d := 9) dL_isDone_253 rfl rfl (by omega) (by decide) (by decide) ?_
        refine zz_iconst (pc := 254) C (v := 5) (by decide) dL_isDone_254 ?_
        refine zz_icmp_eq (pc := 255) C (tgt := 262) dL_isDone_255 (by decide) (fun hc255 => ?_) (fun hc255 => ?_)
        · exact absurd ((nI_eq (a := a9 % 9) (b := 5) (by omega) (by decide)).mp hc255) n5
        · refine zz_iconst (pc := 258) C (v := 1) (by decide) dL_isDone_258 ?_
          refine zz_goto (pc := 259) C (tgt := 263) dL_isDone_259 (by decide) ?_
          refine zz_istore (pc := 263) C dL_isDone_263 (Nat.le_of_ble_eq_true rfl) ?_
          refine zV.less (L' := [some (.ref (x)), some (.ref (b9)), some (.int (nI t9)), some (.int (nI w9)), some (.int (nI k9)), some (.int (nI a9)), some (.int (nI d9)), some (.int (zb (¬ zNot σ k9))), some (.int (σ 9 (9 * k9 + a9 % 9))), some (.int (1))]) ⟨rfl, rfl, rfl, rfl, rfl, rfl, rfl, rfl, rfl, rfl, trivial⟩ ?_
          refine zz_iload (pc := 265) C dL_isDone_265 rfl ?_
          refine zz_if_ne (pc := 267) C (tgt := 285) dL_isDone_267 (by decide) (fun hc267 => ?_) (fun hc267 => ?_)
          · refine zz_iload (pc := 285) C dL_isDone_285 rfl ?_
            refine zz_if_ne (pc := 287) C (tgt := 305) dL_isDone_287 (by decide) (fun hc287 => ?_) (fun hc287 => ?_)
            · refine zz_iload (pc := 305) C dL_isDone_305 rfl ?_
              refine zz_if_lt (pc := 307) C (tgt := 367) dL_isDone_307 (by decide) (fun hc307 => ?_) (fun hc307 => ?_)
              · exact absurd hc307 (zA3 hact).1
              · refine zz_iload (pc := 310) C dL_isDone_310 rfl ?_
                refine zz_iconst (pc := 312) C (v := 3) (by decide) dL_isDone_312 ?_
                refine zz_icmp_ge (pc := 313) C (tgt := 367) dL_isDone_313 (by decide) (fun hc313 => ?_) (fun hc313 => ?_)
                · exact absurd hc313 (zA3 hact).2
                · refine zz_aload_n (pc := 316) C dL_isDone_316 rfl ?_
                  refine zz_iload (pc := 317) C dL_isDone_317 rfl ?_
                  refine zz_iload (pc := 319) C dL_isDone_319 rfl ?_
                  refine zz_bipush (pc := 321) C (v := 9) (by decide) dL_isDone_321 ?_
                  refine zz_irem (pc := 323) C (a := a9) (d := 9) dL_isDone_323 rfl rfl (by omega) (by decide) (by decide) ?_
                  refine zz_iload (pc := 324) C dL_isDone_324 rfl ?_
                  refine zz_iconst (pc := 326) C (v := 3) (by decide) dL_isDone_326 ?_
                  refine zz_irem (pc := 327) C (a := d9) (d := 3) dL_isDone_327 rfl rfl (by omega) (by decide) (by decide) ?_
                  refine zzx_callSW (pc := 328) C h8 ((c_L_setsAction l hl D (x9 := nI k9) (s9 := nI (a9 % 9)) (a9 := nI (d9 % 3)) hC1 hI1.wf).imp (fun _ _ z => z.elim id (fun z => z.elim (fun y => absurd (hTH2.symm.trans y.1) (by decide)) (fun z => z.elim (fun y => absurd (hTH2.symm.trans y.1) (by decide)) (fun z => absurd (hTH2.symm.trans z.1) (by decide))))) (fun _ z => z)) gL_isDone_L_setsAction rfl 4 (by decide +kernel) ⟨Nat.le_of_ble_eq_true rfl, Nat.le_of_ble_eq_true rfl⟩ rfl dL_isDone_328 rfl (Nat.le_of_ble_eq_true rfl) rfl ⟨Nat.le_of_ble_eq_true rfl, Nat.le_of_ble_eq_true rfl⟩ (fun E hE => hE.elim) ?_
                  rintro v G9 ⟨_, rfl, hC2⟩
                  rw [pnn hk, es, q9]
                  rw [pnn hk, hτ2] at hC2
                  refine zz_iload (pc := 331) C dL_isDone_331 rfl ?_
                  refine zz_iconst (pc := 333) C (v := 3) (by decide) dL_isDone_333 ?_
                  refine zz_irem (pc := 334) C (a := d9) (d := 3) dL_isDone_334 rfl rfl (by omega) (by decide) (by decide) ?_
                  refine zz_icmp_ne (pc := 335) C (tgt := 367) dL_isDone_335 (by decide) (fun hc335 => ?_) (fun hc335 => ?_)
                  · exact absurd rfl hc335
                  · refine zz_iload (pc := 338) C dL_isDone_338 rfl ?_
                    refine zz_iconst (pc := 340) C (v := 3) (by decide) dL_isDone_340 ?_
                    refine zz_irem (pc := 341) C (a := d9) (d := 3) dL_isDone_341 rfl rfl (by omega) (by decide) (by decide) ?_
                    refine zz_iconst (pc := 342) C (v := 1) (by decide) dL_isDone_342 ?_
                    refine zz_icmp_ne (pc := 343) C (tgt := 363) dL_isDone_343 (by decide) (fun hc343 => ?_) (fun hc343 => ?_)
                    · refine zz_iconst (pc := 363) C (v := 1) (by decide) dL_isDone_363 ?_
                      refine zz_goto (pc := 364) C (tgt := 368) dL_isDone_364 (by decide) ?_
                      exact zzx_ret (zz_ireturn (pc := 368) C dL_isDone_368 (by first | rfl | exact zb_nar) (Nat.le_of_ble_eq_true rfl) (Nat.le_of_ble_eq_true rfl) ⟨rfl, ⟨tb, ev, A, hC2⟩⟩)
                    · refine zz_aload_n (pc := 346) C dL_isDone_346 rfl ?_
                      refine zz_iload (pc := 347) C dL_isDone_347 rfl ?_
                      refine zz_callV (pc := 349) C (q_pending l D hC2 h1 hk q02 (k := k9)) gL_isDone_X2_pending rfl 1 (by decide +kernel) ⟨Nat.le_of_ble_eq_true rfl, Nat.le_of_ble_eq_true rfl⟩ hC2.x (ci := 2) rfl rfl rfl dL_isDone_349 rfl (Nat.le_of_ble_eq_true rfl) rfl ⟨Nat.le_of_ble_eq_true rfl, Nat.le_of_ble_eq_true rfl⟩ ?_
                      rintro v G9 ⟨rfl, rfl⟩
                      refine zz_iload (pc := 352) C dL_isDone_352 rfl ?_
                      refine zz_bipush (pc := 354) C (v := 9) (by decide) dL_isDone_354 ?_
                      refine zz_irem (pc := 356) C (a := a9) (d := 9) dL_isDone_356 rfl rfl (by omega) (by decide) (by decide) ?_
                      refine zz_ishr (pc := 357) C dL_isDone_357 ?_
                      refine zz_iconst (pc := 358) C (v := 1) (by decide) dL_isDone_358 ?_
                      refine zz_iand (pc := 359) C dL_isDone_359 ?_
                      refine zz_if_ne (pc := 360) C (tgt := 367) dL_isDone_360 (by decide) (fun hc360 => ?_) (fun hc360 => ?_)
                      · exact absurd ((zshr0 (s := a9 % 9) (by omega)).mpr (qq.2.2.2.2.2 (Classical.not_not.mp hc343))) hc360
                      · refine zz_iconst (pc := 363) C (v := 1) (by decide) dL_isDone_363 ?_
                        refine zz_goto (pc := 364) C (tgt := 368) dL_isDone_364 (by decide) ?_
                        exact zzx_ret (zz_ireturn (pc := 368) C dL_isDone_368 (by first | rfl | exact zb_nar) (Nat.le_of_ble_eq_true rfl) (Nat.le_of_ble_eq_true rfl) ⟨rfl, ⟨tb, ev, A, hC2⟩⟩)
            · exact absurd (zb_ne.mpr hn) hc287
          · exact absurd (by decide) hc267
  refine t_L_isDone l D hC (rm := ({ frames := 12, cells := 20, slots := 120, locals := 340 } : Room)) C h8 hX hbl hbA hW hv P0 P1 P2 P3 ?_
  rw [ek]
  refine zz_iload_n (pc := 48) C dL_isDone_48 rfl ?_
  refine zz_bipush (pc := 49) C (v := 8) (by decide) dL_isDone_49 ?_
  refine zz_icmp_ge (pc := 51) C (tgt := 61) dL_isDone_51 (by decide) (fun hc51 => ?_) (fun hc51 => ?_)
  · refine zz_iload_n (pc := 61) C dL_isDone_61 rfl ?_
    refine zz_bipush (pc := 62) C (v := 10) (by decide) dL_isDone_62 ?_
    refine zz_icmp_ge (pc := 64) C (tgt := 80) dL_isDone_64 (by decide) (fun hc64 => ?_) (fun hc64 => ?_)
    · refine zz_iload_n (pc := 80) C dL_isDone_80 rfl ?_
      refine zz_bipush (pc := 81) C (v := 13) (by decide) dL_isDone_81 ?_
      refine zz_icmp_ge (pc := 83) C (tgt := 121) dL_isDone_83 (by decide) (fun hc83 => ?_) (fun hc83 => ?_)
      · refine zz_iload_n (pc := 121) C dL_isDone_121 rfl ?_
        refine zz_bipush (pc := 122) C (v := 18) (by decide) dL_isDone_122 ?_
        refine zz_icmp_ge (pc := 124) C (tgt := 139) dL_isDone_124 (by decide) (fun hc124 => ?_) (fun hc124 => ?_)
        · refine zz_iload_n (pc := 139) C dL_isDone_139 rfl ?_
          refine zz_bipush (pc := 140) C (v := 21) (by decide) dL_isDone_140 ?_
          refine zz_icmp_ge (pc := 142) C (tgt := 165) dL_isDone_142 (by decide) (fun hc142 => ?_) (fun hc142 => ?_)
          · refine zz_iload_n (pc := 165) C dL_isDone_165 rfl ?_
            refine zz_bipush (pc := 166) C (v := 23) (by decide) dL_isDone_166 ?_
            refine zz_icmp_ge (pc := 168) C (tgt := 178) dL_isDone_168 (by decide) (fun hc168 => ?_) (fun hc168 => ?_)
            · refine zz_iload_n (pc := 178) C dL_isDone_178 rfl ?_
              refine zz_bipush (pc := 179) C (v := 25) (by decide) dL_isDone_179 ?_
              refine zz_icmp_ge (pc := 181) C (tgt := 195) dL_isDone_181 (by decide) (fun hc181 => ?_) (fun hc181 => ?_)
              · refine zz_iload (pc := 195) C dL_isDone_195 rfl ?_
                refine zz_iconst (pc := 197) C (v := 1) (by decide) dL_isDone_197 ?_
                refine zz_icmp_le (pc := 198) C (tgt := 214) dL_isDone_198 (by decide) (fun hc198 => ?_) (fun hc198 => ?_)
                · refine zz_iconst (pc := 214) C (v := 0) (by decide) dL_isDone_214 ?_
                  exact zV.less (L' := [some (.ref x), some (.ref b9), some (.int (nI t9)), some (.int (nI w9)), some (.int (nI k9)), some (.int (nI a9)), some (.int (nI d9)), none, none, none]) ⟨rfl, rfl, rfl, rfl, rfl, rfl, rfl, trivial⟩ (zV.topK K215 ((zb_f (fun z => z (Or.inl (zLe1 h1 hk hc198)))).symm))
                · refine zz_aload_n (pc := 201) C dL_isDone_201 rfl ?_
                  refine zz_iload (pc := 202) C dL_isDone_202 rfl ?_
                  refine zz_callV (pc := 204) C (q_state l D hC h1 hk h0) gL_isDone_X2_state rfl 1 (by decide +kernel) ⟨Nat.le_of_ble_eq_true rfl, Nat.le_of_ble_eq_true rfl⟩ hC.x (ci := 2) rfl rfl rfl dL_isDone_204 rfl (Nat.le_of_ble_eq_true rfl) rfl ⟨Nat.le_of_ble_eq_true rfl, Nat.le_of_ble_eq_true rfl⟩ ?_
                  rintro v G9 ⟨rfl, rfl⟩
                  refine zz_if_ne (pc := 207) C (tgt := 214) dL_isDone_207 (by decide) (fun hc207 => ?_) (fun hc207 => ?_)
                  · refine zz_iconst (pc := 214) C (v := 0) (by decide) dL_isDone_214 ?_
                    exact zV.less (L' := [some (.ref x), some (.ref b9), some (.int (nI t9)), some (.int (nI w9)), some (.int (nI k9)), some (.int (nI a9)), some (.int (nI d9)), none, none, none]) ⟨rfl, rfl, rfl, rfl, rfl, rfl, rfl, trivial⟩ (zV.topK K215 ((zb_f (fun z => z (Or.inr (fun y => hc207 (zCon_0.mpr y))))).symm))
                  · refine zz_iconst (pc := 210) C (v := 1) (by decide) dL_isDone_210 ?_
                    refine zz_goto (pc := 211) C (tgt := 215) dL_isDone_211 (by decide) ?_
                    exact zV.less (L' := [some (.ref x), some (.ref b9), some (.int (nI t9)), some (.int (nI w9)), some (.int (nI k9)), some (.int (nI a9)), some (.int (nI d9)), none, none, none]) ⟨rfl, rfl, rfl, rfl, rfl, rfl, rfl, trivial⟩ (zV.topK K215 ((zb_t (show ¬ zNot σ k9 from fun z => z.elim (fun y => hc198 (by rw [y]; decide)) (fun y => y (zCon_0.mp (Classical.not_not.mp hc207))))).symm))
              · exact absurd ((nI_leI (a := 25) (b := w9) (by decide) (by omega)).mpr (by omega)) hc181
            · exact absurd ((nI_leI (a := 23) (b := w9) (by decide) (by omega)).mpr (by omega)) hc168
          · exact absurd ((nI_leI (a := 21) (b := w9) (by decide) (by omega)).mpr (by omega)) hc142
        · exact absurd ((nI_leI (a := 18) (b := w9) (by decide) (by omega)).mpr (by omega)) hc124
      · exact absurd ((nI_leI (a := 13) (b := w9) (by decide) (by omega)).mpr (by omega)) hc83
    · exact absurd ((nI_leI (a := 10) (b := w9) (by decide) (by omega)).mpr (by omega)) hc64
  · exact absurd ((nI_leI (a := 8) (b := w9) (by decide) (by omega)).mpr (by omega)) hc51
theorem zRx_lD {m f l k : Nat} {a : zS} {q : List zEv} (h : k ≤ 5) : 0 + (zRmX f l m (zCount 0 a q) k).cells ≤ 20 ∧ 0 + (zRmX f l m (zCount 0 a q) k).slots ≤ 120 := zRx_l h
theorem z511lt {b : Nat} (h : b < 512) : ¬ (nI b < 0 ∨ (511 : Int32) < nI b) := by
  rintro (z | z)
  · exact nI_nlt (a := b) (b := 0) (by omega) (by omega) z
  · have := (nI_ltI (a := 511) (b := b) (by decide) (by omega)).mp z
    omega
theorem z475_36 {v : Int32} (h : v &&& 475 = v) : v &&& 36 = 0 := by
  rw [← h, Int32.and_assoc, show (475 : Int32) &&& 36 = 0 by decide]
  simp
theorem zMasked {τ : zS} {k c : Nat} (hP : zPp (τ 11 k)) (ho : zOpen τ k = 0) (hm : τ 10 k = nI c &&& (-37)) : τ 11 k &&& (nI c ^^^ (-1)) = 0 := by
  apply zbit_ext
  intro t ht
  rw [zbit_0, zbit_and, zbit_not _ ht]
  have h1 : zbit (zOpen τ k) t = false := by rw [ho, zbit_0]
  rw [zopen_bit ht, hm, zbit_and] at h1
  cases hp : zbit (τ 11 k) t with
  | false => rfl
  | true =>
    rw [hp] at h1
    cases hc : zbit (nI c) t with
    | true => rfl
    | false => rw [hc] at h1; simp at h1
set_option maxHeartbeats 4000000 in
set_option maxRecDepth 100000 in
theorem d_mask_x (l : Launch) (hl : l.stackTraces = false) (D : va_G) {B G : zG} {x tb ev : Nat} {A : Nat → Nat} {σ : zS} {m0 : Nat} (hC : zCl B x tb ev A σ [] 0 m0 G) (hI : zIv 0 σ []) {b9 Ln t9 w9 v9 a9 d9 k9 : Nat} {xs : Nat → Int32} (hv : v9 < 2 ^ 31) (ha : a9 < 5000) (hd : d9 < 6000) (P0 : zsMet D l yL_part wsL_part ({ frames := 1, cells := 0, slots := 0, locals := 30 } : Room) [.ref b9, .int (nI t9), .int (nI 30)] G b9 Ln xs (fun v G9 => v = some (.int (nI w9)) ∧ G9 = G) (fun _ => False)) (P1 : zsMet D l yL_part wsL_part ({ frames := 1, cells := 0, slots := 0, locals := 30 } : Room) [.ref b9, .int (nI (t9 + 1)), .int (nI 4000)] G b9 Ln xs (fun v G9 => v = some (.int (nI v9)) ∧ G9 = G) (fun _ => False)) (P2 : zsMet D l yL_part wsL_part ({ frames := 1, cells := 0, slots := 0, locals := 30 } : Room) [.ref b9, .int (nI (t9 + 2)), .int (nI 5000)] G b9 Ln xs (fun v G9 => v = some (.int (nI a9)) ∧ G9 = G) (fun _ => False)) (P3 : zsMet D l yL_part wsL_part ({ frames := 1, cells := 0, slots := 0, locals := 30 } : Room) [.ref b9, .int (nI (t9 + 3)), .int (nI 6000)] G b9 Ln xs (fun v G9 => v = some (.int (nI d9)) ∧ G9 = G) (fun _ => False)) (ek : zPid σ 40 (v9 % 40 + 1) = k9)  (h1 : 1 ≤ k9) (hk : k9 < 41) (h0 : σ 0 k9 ≠ 0) (hw : w9 = 26) (hs : a9 % 513 = 512) : zsMet D l yL_isDone wsL_isDone ({ frames := 13, cells := 20, slots := 120, locals := 420 } : Room) [.ref x, .ref b9, .int (nI t9)] G b9 Ln xs (fun v G9 => v = some (.int 1) ∧ zLq B x σ m0 G9) (fun _ => False) := by
  refine zsMet_of (cc := cL_isDone) (maxL := 10) (ret := (some .boolean)) (by decide) rfl (Nat.le_of_ble_eq_true rfl) ?_
  intro p e s m args below meth c C hnx h8 hX hbl hbA
  have hW := hI.wf
  have hTH : zE3 (¬ zHere σ (nI k9)) (nI (a9 % 513) < 0 ∨ (511 : Int32) < nI (a9 % 513)) (zNot σ (pn (nI k9))) = 2 := zE3_2 (fun z => z (zHere_n h1 hk h0)) (Or.inr (by rw [hs]; decide))
  have K215 : zV p l e ({ frames := 13, cells := 20, slots := 120, locals := 420 } : Room) s m args below meth c D (zA G s.heap.size) 0 0 (zxZ below D G (fun v G9 => v = some (.int 1) ∧ zLq B x σ m0 G9) (fun _ => False) args s ({ frames := 13, cells := 20, slots := 120, locals := 420 } : Room)) G 215 [some (.ref x), some (.ref b9), some (.int (nI t9)), some (.int (nI w9)), some (.int (nI k9)), some (.int (nI a9)), some (.int (nI d9)), none, none, none] [.int (zb (¬ zNot σ k9))] := by
    refine zz_istore (pc := 215) C dL_isDone_215 (Nat.le_of_ble_eq_true rfl) ?_
    refine zV.less (L' := [some (.ref (x)), some (.ref (b9)), some (.int (nI t9)), some (.int (nI w9)), some (.int (nI k9)), some (.int (nI a9)), some (.int (nI d9)), some (.int (zb (¬ zNot σ k9))), none, none]) ⟨rfl, rfl, rfl, rfl, rfl, rfl, rfl, rfl, trivial⟩ ?_
    refine zz_iload_n (pc := 217) C dL_isDone_217 rfl ?_
    refine zz_bipush (pc := 218) C (v := 25) (by decide) dL_isDone_218 ?_
    refine zz_icmp_ne (pc := 220) C (tgt := 369) dL_isDone_220 (by decide) (fun hc220 => ?_) (fun hc220 => ?_)
    · refine zz_iload_n (pc := 369) C dL_isDone_369 rfl ?_
      refine zz_bipush (pc := 370) C (v := 26) (by decide) dL_isDone_370 ?_
      refine zz_icmp_ne (pc := 372) C (tgt := 491) dL_isDone_372 (by decide) (fun hc372 => ?_) (fun hc372 => ?_)
      · exact absurd (by rw [show w9 = 26 by omega]; rfl) hc372
      · refine zz_aload_n (pc := 375) C dL_isDone_375 rfl ?_
        refine zz_iload (pc := 376) C dL_isDone_376 rfl ?_
        refine zz_iload (pc := 378) C dL_isDone_378 rfl ?_
        refine zz_sipush (pc := 380) C (v := 513) (by decide) dL_isDone_380 ?_
        refine zz_irem (pc := 383) C (a := a9) (d := 513) dL_isDone_383 rfl rfl (by omega) (by decide) (by decide) ?_
        refine zzx_callSW (pc := 384) C h8 ((c_L_setsMask l hl D (x9 := nI k9) (c9 := nI (a9 % 513)) (X := zDel (zMk σ (pn (nI k9)) (nI (a9 % 513)), []) (pn (nI k9))) (N := 0) hC hW rfl (fun z => absurd (hTH.symm.trans z) (by decide))).imp (fun _ _ z => z.elim (fun y => absurd (hTH.symm.trans y.1) (by decide)) (fun z => z.elim (fun y => absurd (hTH.symm.trans y.1) (by decide)) (fun z => z.elim id (fun z => absurd (hTH.symm.trans z.1) (by decide))))) (fun _ z => z)) gL_isDone_L_setsMask rfl 3 (by decide +kernel) ⟨Nat.le_of_ble_eq_true rfl, Nat.le_of_ble_eq_true rfl⟩ rfl dL_isDone_384 rfl (Nat.le_of_ble_eq_true rfl) rfl (zRx_l (by decide)) (fun E hE => hE.elim) ?_
        rintro v G9 ⟨_, rfl, rfl⟩
        refine zV.widen (k := 5) (n := 60) (zRx_l5 (by decide)).1 (zRx_l5 (by decide)).2 ?_
        refine zz_istore (pc := 387) C dL_isDone_387 (Nat.le_of_ble_eq_true rfl) ?_
        refine zV.less (L' := [some (.ref (x)), some (.ref (b9)), some (.int (nI t9)), some (.int (nI w9)), some (.int (nI k9)), some (.int (nI a9)), some (.int (nI d9)), some (.int (zb (¬ zNot σ k9))), some (.int (-20)), none]) ⟨rfl, rfl, rfl, rfl, rfl, rfl, rfl, rfl, rfl, trivial⟩ ?_
        refine zz_iload (pc := 389) C dL_isDone_389 rfl ?_
        refine zz_sipush (pc := 391) C (v := 513) (by decide) dL_isDone_391 ?_
        refine zz_irem (pc := 394) C (a := a9) (d := 513) dL_isDone_394 rfl rfl (by omega) (by decide) (by decide) ?_
        refine zz_sipush (pc := 395) C (v := 512) (by decide) dL_isDone_395 ?_
        refine zz_icmp_ne (pc := 398) C (tgt := 416) dL_isDone_398 (by decide) (fun hc398 => ?_) (fun hc398 => ?_)
        · exact absurd (by rw [hs]; rfl) hc398
        · refine zz_iload (pc := 401) C dL_isDone_401 rfl ?_
          refine zz_bipush (pc := 403) C (v := -20) (by decide) dL_isDone_403 ?_
          refine zz_icmp_ne (pc := 405) C (tgt := 412) dL_isDone_405 (by decide) (fun hc405 => ?_) (fun hc405 => ?_)
          · exact absurd rfl hc405
          · refine zz_iconst (pc := 408) C (v := 1) (by decide) dL_isDone_408 ?_
            refine zz_goto (pc := 409) C (tgt := 490) dL_isDone_409 (by decide) ?_
            exact zzx_ret (zz_ireturn (pc := 490) C dL_isDone_490 (by first | rfl | exact zb_nar) (Nat.le_of_ble_eq_true rfl) (Nat.le_of_ble_eq_true rfl) ⟨rfl, ⟨tb, ev, A, hC⟩⟩)
    · exact absurd ((nI_eq (a := w9) (b := 25) (by omega) (by decide)).mp (Classical.not_not.mp hc220)) (by omega)
  refine t_L_isDone l D hC (rm := ({ frames := 12, cells := 20, slots := 120, locals := 340 } : Room)) C h8 hX hbl hbA hW hv P0 P1 P2 P3 ?_
  rw [ek]
  refine zz_iload_n (pc := 48) C dL_isDone_48 rfl ?_
  refine zz_bipush (pc := 49) C (v := 8) (by decide) dL_isDone_49 ?_
  refine zz_icmp_ge (pc := 51) C (tgt := 61) dL_isDone_51 (by decide) (fun hc51 => ?_) (fun hc51 => ?_)
  · refine zz_iload_n (pc := 61) C dL_isDone_61 rfl ?_
    refine zz_bipush (pc := 62) C (v := 10) (by decide) dL_isDone_62 ?_
    refine zz_icmp_ge (pc := 64) C (tgt := 80) dL_isDone_64 (by decide) (fun hc64 => ?_) (fun hc64 => ?_)
    · refine zz_iload_n (pc := 80) C dL_isDone_80 rfl ?_
      refine zz_bipush (pc := 81) C (v := 13) (by decide) dL_isDone_81 ?_
      refine zz_icmp_ge (pc := 83) C (tgt := 121) dL_isDone_83 (by decide) (fun hc83 => ?_) (fun hc83 => ?_)
      · refine zz_iload_n (pc := 121) C dL_isDone_121 rfl ?_
        refine zz_bipush (pc := 122) C (v := 18) (by decide) dL_isDone_122 ?_
        refine zz_icmp_ge (pc := 124) C (tgt := 139) dL_isDone_124 (by decide) (fun hc124 => ?_) (fun hc124 => ?_)
        · refine zz_iload_n (pc := 139) C dL_isDone_139 rfl ?_
          refine zz_bipush (pc := 140) C (v := 21) (by decide) dL_isDone_140 ?_
          refine zz_icmp_ge (pc := 142) C (tgt := 165) dL_isDone_142 (by decide) (fun hc142 => ?_) (fun hc142 => ?_)
          · refine zz_iload_n (pc := 165) C dL_isDone_165 rfl ?_
            refine zz_bipush (pc := 166) C (v := 23) (by decide) dL_isDone_166 ?_
            refine zz_icmp_ge (pc := 168) C (tgt := 178) dL_isDone_168 (by decide) (fun hc168 => ?_) (fun hc168 => ?_)
            · refine zz_iload_n (pc := 178) C dL_isDone_178 rfl ?_
              refine zz_bipush (pc := 179) C (v := 25) (by decide) dL_isDone_179 ?_
              refine zz_icmp_ge (pc := 181) C (tgt := 195) dL_isDone_181 (by decide) (fun hc181 => ?_) (fun hc181 => ?_)
              · refine zz_iload (pc := 195) C dL_isDone_195 rfl ?_
                refine zz_iconst (pc := 197) C (v := 1) (by decide) dL_isDone_197 ?_
                refine zz_icmp_le (pc := 198) C (tgt := 214) dL_isDone_198 (by decide) (fun hc198 => ?_) (fun hc198 => ?_)
                · refine zz_iconst (pc := 214) C (v := 0) (by decide) dL_isDone_214 ?_
                  exact zV.less (L' := [some (.ref x), some (.ref b9), some (.int (nI t9)), some (.int (nI w9)), some (.int (nI k9)), some (.int (nI a9)), some (.int (nI d9)), none, none, none]) ⟨rfl, rfl, rfl, rfl, rfl, rfl, rfl, trivial⟩ (zV.topK K215 ((zb_f (fun z => z (Or.inl (zLe1 h1 hk hc198)))).symm))
                · refine zz_aload_n (pc := 201) C dL_isDone_201 rfl ?_
                  refine zz_iload (pc := 202) C dL_isDone_202 rfl ?_
                  refine zz_callV (pc := 204) C (q_state l D hC h1 hk h0) gL_isDone_X2_state rfl 1 (by decide +kernel) ⟨Nat.le_of_ble_eq_true rfl, Nat.le_of_ble_eq_true rfl⟩ hC.x (ci := 2) rfl rfl rfl dL_isDone_204 rfl (Nat.le_of_ble_eq_true rfl) rfl ⟨Nat.le_of_ble_eq_true rfl, Nat.le_of_ble_eq_true rfl⟩ ?_
                  rintro v G9 ⟨rfl, rfl⟩
                  refine zz_if_ne (pc := 207) C (tgt := 214) dL_isDone_207 (by decide) (fun hc207 => ?_) (fun hc207 => ?_)
                  · refine zz_iconst (pc := 214) C (v := 0) (by decide) dL_isDone_214 ?_
                    exact zV.less (L' := [some (.ref x), some (.ref b9), some (.int (nI t9)), some (.int (nI w9)), some (.int (nI k9)), some (.int (nI a9)), some (.int (nI d9)), none, none, none]) ⟨rfl, rfl, rfl, rfl, rfl, rfl, rfl, trivial⟩ (zV.topK K215 ((zb_f (fun z => z (Or.inr (fun y => hc207 (zCon_0.mpr y))))).symm))
                  · refine zz_iconst (pc := 210) C (v := 1) (by decide) dL_isDone_210 ?_
                    refine zz_goto (pc := 211) C (tgt := 215) dL_isDone_211 (by decide) ?_
                    exact zV.less (L' := [some (.ref x), some (.ref b9), some (.int (nI t9)), some (.int (nI w9)), some (.int (nI k9)), some (.int (nI a9)), some (.int (nI d9)), none, none, none]) ⟨rfl, rfl, rfl, rfl, rfl, rfl, rfl, trivial⟩ (zV.topK K215 ((zb_t (show ¬ zNot σ k9 from fun z => z.elim (fun y => hc198 (by rw [y]; decide)) (fun y => y (zCon_0.mp (Classical.not_not.mp hc207))))).symm))
              · exact absurd ((nI_leI (a := 25) (b := w9) (by decide) (by omega)).mpr (by omega)) hc181
            · exact absurd ((nI_leI (a := 23) (b := w9) (by decide) (by omega)).mpr (by omega)) hc168
          · exact absurd ((nI_leI (a := 21) (b := w9) (by decide) (by omega)).mpr (by omega)) hc142
        · exact absurd ((nI_leI (a := 18) (b := w9) (by decide) (by omega)).mpr (by omega)) hc124
      · exact absurd ((nI_leI (a := 13) (b := w9) (by decide) (by omega)).mpr (by omega)) hc83
    · exact absurd ((nI_leI (a := 10) (b := w9) (by decide) (by omega)).mpr (by omega)) hc64
  · exact absurd ((nI_leI (a := 8) (b := w9) (by decide) (by omega)).mpr (by omega)) hc51
set_option maxHeartbeats 4000000 in
set_option maxRecDepth 100000 in
theorem d_mask_n (l : Launch) (hl : l.stackTraces = false) (D : va_G) {B G : zG} {x tb ev : Nat} {A : Nat → Nat} {σ : zS} {m0 : Nat} (hC : zCl B x tb ev A σ [] 0 m0 G) (hI : zIv 0 σ []) {b9 Ln t9 w9 v9 a9 d9 k9 : Nat} {xs : Nat → Int32} (hv : v9 < 2 ^ 31) (ha : a9 < 5000) (hd : d9 < 6000) (P0 : zsMet D l yL_part wsL_part ({ frames := 1, cells := 0, slots := 0, locals := 30 } : Room) [.ref b9, .int (nI t9), .int (nI 30)] G b9 Ln xs (fun v G9 => v = some (.int (nI w9)) ∧ G9 = G) (fun _ => False)) (P1 : zsMet D l yL_part wsL_part ({ frames := 1, cells := 0, slots := 0, locals := 30 } : Room) [.ref b9, .int (nI (t9 + 1)), .int (nI 4000)] G b9 Ln xs (fun v G9 => v = some (.int (nI v9)) ∧ G9 = G) (fun _ => False)) (P2 : zsMet D l yL_part wsL_part ({ frames := 1, cells := 0, slots := 0, locals := 30 } : Room) [.ref b9, .int (nI (t9 + 2)), .int (nI 5000)] G b9 Ln xs (fun v G9 => v = some (.int (nI a9)) ∧ G9 = G) (fun _ => False)) (P3 : zsMet D l yL_part wsL_part ({ frames := 1, cells := 0, slots := 0, locals := 30 } : Room) [.ref b9, .int (nI (t9 + 3)), .int (nI 6000)] G b9 Ln xs (fun v G9 => v = some (.int (nI d9)) ∧ G9 = G) (fun _ => False)) (ek : zPid σ 40 (v9 % 40 + 1) = k9)  (h1 : 1 ≤ k9) (hk : k9 < 41) (h0 : σ 0 k9 ≠ 0) (hw : w9 = 26) (hs : a9 % 513 < 512) (hn : zNot σ k9) : zsMet D l yL_isDone wsL_isDone ({ frames := 13, cells := 20, slots := 120, locals := 420 } : Room) [.ref x, .ref b9, .int (nI t9)] G b9 Ln xs (fun v G9 => v = some (.int 1) ∧ zLq B x σ m0 G9) (fun _ => False) := by
  refine zsMet_of (cc := cL_isDone) (maxL := 10) (ret := (some .boolean)) (by decide) rfl (Nat.le_of_ble_eq_true rfl) ?_
  intro p e s m args below meth c C hnx h8 hX hbl hbA
  have hW := hI.wf
  have hTH : zE3 (¬ zHere σ (nI k9)) (nI (a9 % 513) < 0 ∨ (511 : Int32) < nI (a9 % 513)) (zNot σ (pn (nI k9))) = 3 := zE3_3 (fun z => z (zHere_n h1 hk h0)) (z511lt hs) (by rw [pnn hk]; exact hn)
  have K215 : zV p l e ({ frames := 13, cells := 20, slots := 120, locals := 420 } : Room) s m args below meth c D (zA G s.heap.size) 0 0 (zxZ below D G (fun v G9 => v = some (.int 1) ∧ zLq B x σ m0 G9) (fun _ => False) args s ({ frames := 13, cells := 20, slots := 120, locals := 420 } : Room)) G 215 [some (.ref x), some (.ref b9), some (.int (nI t9)), some (.int (nI w9)), some (.int (nI k9)), some (.int (nI a9)), some (.int (nI d9)), none, none, none] [.int (zb (¬ zNot σ k9))] := by
    refine zz_istore (pc := 215) C dL_isDone_215 (Nat.le_of_ble_eq_true rfl) ?_
    refine zV.less (L' := [some (.ref (x)), some (.ref (b9)), some (.int (nI t9)), some (.int (nI w9)), some (.int (nI k9)), some (.int (nI a9)), some (.int (nI d9)), some (.int (zb (¬ zNot σ k9))), none, none]) ⟨rfl, rfl, rfl, rfl, rfl, rfl, rfl, rfl, trivial⟩ ?_
    refine zz_iload_n (pc := 217) C dL_isDone_217 rfl ?_
    refine zz_bipush (pc := 218) C (v := 25) (by decide) dL_isDone_218 ?_
    refine zz_icmp_ne (pc := 220) C (tgt := 369) dL_isDone_220 (by decide) (fun hc220 => ?_) (fun hc220 => ?_)
    · refine zz_iload_n (pc := 369) C dL_isDone_369 rfl ?_
      refine zz_bipush (pc := 370) C (v := 26) (by decide) dL_isDone_370 ?_
      refine zz_icmp_ne (pc := 372) C (tgt := 491) dL_isDone_372 (by decide) (fun hc372 => ?_) (fun hc372 => ?_)
      · exact absurd (by rw [show w9 = 26 by omega]; rfl) hc372
      · refine zz_aload_n (pc := 375) C dL_isDone_375 rfl ?_
        refine zz_iload (pc := 376) C dL_isDone_376 rfl ?_
        refine zz_iload (pc := 378) C dL_isDone_378 rfl ?_
        refine zz_sipush (pc := 380) C (v := 513) (by decide) dL_isDone_380 ?_
        refine zz_irem (pc := 383) C (a := a9) (d := 513) dL_isDone_383 rfl rfl (by omega) (by decide) (by decide) ?_
        refine zzx_callSW (pc := 384) C h8 ((c_L_setsMask l hl D (x9 := nI k9) (c9 := nI (a9 % 513)) (X := zDel (zMk σ (pn (nI k9)) (nI (a9 % 513)), []) (pn (nI k9))) (N := 0) hC hW rfl (fun z => absurd (hTH.symm.trans z) (by decide))).imp (fun _ _ z => z.elim (fun y => absurd (hTH.symm.trans y.1) (by decide)) (fun z => z.elim (fun y => absurd (hTH.symm.trans y.1) (by decide)) (fun z => z.elim (fun y => absurd (hTH.symm.trans y.1) (by decide)) (fun z => z)))) (fun _ z => z)) gL_isDone_L_setsMask rfl 3 (by decide +kernel) ⟨Nat.le_of_ble_eq_true rfl, Nat.le_of_ble_eq_true rfl⟩ rfl dL_isDone_384 rfl (Nat.le_of_ble_eq_true rfl) rfl (zRx_l (by decide)) (fun E hE => hE.elim) ?_
        rintro v G9 ⟨_, rfl, rfl⟩
        refine zV.widen (k := 5) (n := 60) (zRx_l5 (by decide)).1 (zRx_l5 (by decide)).2 ?_
        refine zz_istore (pc := 387) C dL_isDone_387 (Nat.le_of_ble_eq_true rfl) ?_
        refine zV.less (L' := [some (.ref (x)), some (.ref (b9)), some (.int (nI t9)), some (.int (nI w9)), some (.int (nI k9)), some (.int (nI a9)), some (.int (nI d9)), some (.int (zb (¬ zNot σ k9))), some (.int (-10)), none]) ⟨rfl, rfl, rfl, rfl, rfl, rfl, rfl, rfl, rfl, trivial⟩ ?_
        refine zz_iload (pc := 389) C dL_isDone_389 rfl ?_
        refine zz_sipush (pc := 391) C (v := 513) (by decide) dL_isDone_391 ?_
        refine zz_irem (pc := 394) C (a := a9) (d := 513) dL_isDone_394 rfl rfl (by omega) (by decide) (by decide) ?_
        refine zz_sipush (pc := 395) C (v := 512) (by decide) dL_isDone_395 ?_
        refine zz_icmp_ne (pc := 398) C (tgt := 416) dL_isDone_398 (by decide) (fun hc398 => ?_) (fun hc398 => ?_)
        · refine zz_iload (pc := 416) C dL_isDone_416 rfl ?_
          refine zz_if_ne (pc := 418) C (tgt := 436) dL_isDone_418 (by decide) (fun hc418 => ?_) (fun hc418 => ?_)
          · exact absurd hn (zb_ne.mp hc418)
          · refine zz_iload (pc := 421) C dL_isDone_421 rfl ?_
            refine zz_bipush (pc := 423) C (v := -10) (by decide) dL_isDone_423 ?_
            refine zz_icmp_ne (pc := 425) C (tgt := 432) dL_isDone_425 (by decide) (fun hc425 => ?_) (fun hc425 => ?_)
            · exact absurd rfl hc425
            · refine zz_iconst (pc := 428) C (v := 1) (by decide) dL_isDone_428 ?_
              refine zz_goto (pc := 429) C (tgt := 490) dL_isDone_429 (by decide) ?_
              exact zzx_ret (zz_ireturn (pc := 490) C dL_isDone_490 (by first | rfl | exact zb_nar) (Nat.le_of_ble_eq_true rfl) (Nat.le_of_ble_eq_true rfl) ⟨rfl, ⟨tb, ev, A, hC⟩⟩)
        · exact absurd ((nI_eq (a := a9 % 513) (b := 512) (by omega) (by decide)).mp (Classical.not_not.mp hc398)) (by omega)
    · exact absurd ((nI_eq (a := w9) (b := 25) (by omega) (by decide)).mp (Classical.not_not.mp hc220)) (by omega)
  refine t_L_isDone l D hC (rm := ({ frames := 12, cells := 20, slots := 120, locals := 340 } : Room)) C h8 hX hbl hbA hW hv P0 P1 P2 P3 ?_
  rw [ek]
  refine zz_iload_n (pc := 48) C dL_isDone_48 rfl ?_
  refine zz_bipush (pc := 49) C (v := 8) (by decide) dL_isDone_49 ?_
  refine zz_icmp_ge (pc := 51) C (tgt := 61) dL_isDone_51 (by decide) (fun hc51 => ?_) (fun hc51 => ?_)
  · refine zz_iload_n (pc := 61) C dL_isDone_61 rfl ?_
    refine zz_bipush (pc := 62) C (v := 10) (by decide) dL_isDone_62 ?_
    refine zz_icmp_ge (pc := 64) C (tgt := 80) dL_isDone_64 (by decide) (fun hc64 => ?_) (fun hc64 => ?_)
    · refine zz_iload_n (pc := 80) C dL_isDone_80 rfl ?_
      refine zz_bipush (pc := 81) C (v := 13) (by decide) dL_isDone_81 ?_
      refine zz_icmp_ge (pc := 83) C (tgt := 121) dL_isDone_83 (by decide) (fun hc83 => ?_) (fun hc83 => ?_)
      · refine zz_iload_n (pc := 121) C dL_isDone_121 rfl ?_
        refine zz_bipush (pc := 122) C (v := 18) (by decide) dL_isDone_122 ?_
        refine zz_icmp_ge (pc := 124) C (tgt := 139) dL_isDone_124 (by decide) (fun hc124 => ?_) (fun hc124 => ?_)
        · refine zz_iload_n (pc := 139) C dL_isDone_139 rfl ?_
          refine zz_bipush (pc := 140) C (v := 21) (by decide) dL_isDone_140 ?_
          refine zz_icmp_ge (pc := 142) C (tgt := 165) dL_isDone_142 (by decide) (fun hc142 => ?_) (fun hc142 => ?_)
          · refine zz_iload_n (pc := 165) C dL_isDone_165 rfl ?_
            refine zz_bipush (pc := 166) C (v := 23) (by decide) dL_isDone_166 ?_
            refine zz_icmp_ge (pc := 168) C (tgt := 178) dL_isDone_168 (by decide) (fun hc168 => ?_) (fun hc168 => ?_)
            · refine zz_iload_n (pc := 178) C dL_isDone_178 rfl ?_
              refine zz_bipush (pc := 179) C (v := 25) (by decide) dL_isDone_179 ?_
              refine zz_icmp_ge (pc := 181) C (tgt := 195) dL_isDone_181 (by decide) (fun hc181 => ?_) (fun hc181 => ?_)
              · refine zz_iload (pc := 195) C dL_isDone_195 rfl ?_
                refine zz_iconst (pc := 197) C (v := 1) (by decide) dL_isDone_197 ?_
                refine zz_icmp_le (pc := 198) C (tgt := 214) dL_isDone_198 (by decide) (fun hc198 => ?_) (fun hc198 => ?_)
                · refine zz_iconst (pc := 214) C (v := 0) (by decide) dL_isDone_214 ?_
                  exact zV.less (L' := [some (.ref x), some (.ref b9), some (.int (nI t9)), some (.int (nI w9)), some (.int (nI k9)), some (.int (nI a9)), some (.int (nI d9)), none, none, none]) ⟨rfl, rfl, rfl, rfl, rfl, rfl, rfl, trivial⟩ (zV.topK K215 ((zb_f (fun z => z (Or.inl (zLe1 h1 hk hc198)))).symm))
                · refine zz_aload_n (pc := 201) C dL_isDone_201 rfl ?_
                  refine zz_iload (pc := 202) C dL_isDone_202 rfl ?_
                  refine zz_callV (pc := 204) C (q_state l D hC h1 hk h0) gL_isDone_X2_state rfl 1 (by decide +kernel) ⟨Nat.le_of_ble_eq_true rfl, Nat.le_of_ble_eq_true rfl⟩ hC.x (ci := 2) rfl rfl rfl dL_isDone_204 rfl (Nat.le_of_ble_eq_true rfl) rfl ⟨Nat.le_of_ble_eq_true rfl, Nat.le_of_ble_eq_true rfl⟩ ?_
                  rintro v G9 ⟨rfl, rfl⟩
                  refine zz_if_ne (pc := 207) C (tgt := 214) dL_isDone_207 (by decide) (fun hc207 => ?_) (fun hc207 => ?_)
                  · refine zz_iconst (pc := 214) C (v := 0) (by decide) dL_isDone_214 ?_
                    exact zV.less (L' := [some (.ref x), some (.ref b9), some (.int (nI t9)), some (.int (nI w9)), some (.int (nI k9)), some (.int (nI a9)), some (.int (nI d9)), none, none, none]) ⟨rfl, rfl, rfl, rfl, rfl, rfl, rfl, trivial⟩ (zV.topK K215 ((zb_f (fun z => z (Or.inr (fun y => hc207 (zCon_0.mpr y))))).symm))
                  · refine zz_iconst (pc := 210) C (v := 1) (by decide) dL_isDone_210 ?_
                    refine zz_goto (pc := 211) C (tgt := 215) dL_isDone_211 (by decide) ?_
                    exact zV.less (L' := [some (.ref x), some (.ref b9), some (.int (nI t9)), some (.int (nI w9)), some (.int (nI k9)), some (.int (nI a9)), some (.int (nI d9)), none, none, none]) ⟨rfl, rfl, rfl, rfl, rfl, rfl, rfl, trivial⟩ (zV.topK K215 ((zb_t (show ¬ zNot σ k9 from fun z => z.elim (fun y => hc198 (by rw [y]; decide)) (fun y => y (zCon_0.mp (Classical.not_not.mp hc207))))).symm))
              · exact absurd ((nI_leI (a := 25) (b := w9) (by decide) (by omega)).mpr (by omega)) hc181
            · exact absurd ((nI_leI (a := 23) (b := w9) (by decide) (by omega)).mpr (by omega)) hc168
          · exact absurd ((nI_leI (a := 21) (b := w9) (by decide) (by omega)).mpr (by omega)) hc142
        · exact absurd ((nI_leI (a := 18) (b := w9) (by decide) (by omega)).mpr (by omega)) hc124
      · exact absurd ((nI_leI (a := 13) (b := w9) (by decide) (by omega)).mpr (by omega)) hc83
    · exact absurd ((nI_leI (a := 10) (b := w9) (by decide) (by omega)).mpr (by omega)) hc64
  · exact absurd ((nI_leI (a := 8) (b := w9) (by decide) (by omega)).mpr (by omega)) hc51
set_option maxHeartbeats 4000000 in
set_option maxRecDepth 100000 in
theorem d_mask_y (l : Launch) (hl : l.stackTraces = false) (D : va_G) {B G : zG} {x tb ev : Nat} {A : Nat → Nat} {σ : zS} {m0 : Nat} (hC : zCl B x tb ev A σ [] 0 m0 G) (hI : zIv 0 σ []) {b9 Ln t9 w9 v9 a9 d9 k9 : Nat} {xs : Nat → Int32} (hv : v9 < 2 ^ 31) (ha : a9 < 5000) (hd : d9 < 6000) (P0 : zsMet D l yL_part wsL_part ({ frames := 1, cells := 0, slots := 0, locals := 30 } : Room) [.ref b9, .int (nI t9), .int (nI 30)] G b9 Ln xs (fun v G9 => v = some (.int (nI w9)) ∧ G9 = G) (fun _ => False)) (P1 : zsMet D l yL_part wsL_part ({ frames := 1, cells := 0, slots := 0, locals := 30 } : Room) [.ref b9, .int (nI (t9 + 1)), .int (nI 4000)] G b9 Ln xs (fun v G9 => v = some (.int (nI v9)) ∧ G9 = G) (fun _ => False)) (P2 : zsMet D l yL_part wsL_part ({ frames := 1, cells := 0, slots := 0, locals := 30 } : Room) [.ref b9, .int (nI (t9 + 2)), .int (nI 5000)] G b9 Ln xs (fun v G9 => v = some (.int (nI a9)) ∧ G9 = G) (fun _ => False)) (P3 : zsMet D l yL_part wsL_part ({ frames := 1, cells := 0, slots := 0, locals := 30 } : Room) [.ref b9, .int (nI (t9 + 3)), .int (nI 6000)] G b9 Ln xs (fun v G9 => v = some (.int (nI d9)) ∧ G9 = G) (fun _ => False)) (ek : zPid σ 40 (v9 % 40 + 1) = k9) {X : zS × List zEv} (h1 : 1 ≤ k9) (hk : k9 < 41) (h0 : σ 0 k9 ≠ 0) (hw : w9 = 26) (hs : a9 % 513 < 512) (hn : ¬ zNot σ k9) (hXe : X = zDel (zMk σ k9 (nI (a9 % 513)), []) k9) (hr : zReady 8300 X) : zsMet D l yL_isDone wsL_isDone (zRmX 13 420 m0 (zCount 8300 X.1 X.2) 20) [.ref x, .ref b9, .int (nI t9)] G b9 Ln xs (fun v G9 => v = some (.int 1) ∧ zLq B x (zFin 8300 X) (max m0 (zCount 8300 X.1 X.2)) G9) (fun _ => False) := by
  refine zsMet_of (cc := cL_isDone) (maxL := 10) (ret := (some .boolean)) (by decide) rfl (Nat.le_of_ble_eq_true rfl) ?_
  intro p e s m args below meth c C hnx h8 hX hbl hbA
  have hW := hI.wf
  have hTH : zE3 (¬ zHere σ (nI k9)) (nI (a9 % 513) < 0 ∨ (511 : Int32) < nI (a9 % 513)) (zNot σ (pn (nI k9))) = 0 := zE3_0 (fun z => z (zHere_n h1 hk h0)) (z511lt hs) (by rw [pnn hk]; exact hn)
  have hp : k9 ≠ 0 ∧ k9 ≠ 1 := ⟨by omega, (zNr hn).1⟩
  have hI1 : zIv 0 (zFin 8300 X) [] := (show zIv 0 X.1 X.2 by rw [hXe]; exact (hI.mk h0 hp.2 hs).del hp h0).fin hr
  have hm : zFin 8300 X 10 k9 = nI (a9 % 513) &&& (-37) := by
    have j1 : zMj (zMk σ k9 (nI (a9 % 513))) X.1 := by rw [hXe]; exact zMj.del (x := (zMk σ k9 (nI (a9 % 513)), [])) hk hp.2
    have j2 := (j1.tr (zMj.go (n := 8300) hr.1)).2.2
    exact (congrFun j2 k9).trans zu_self
  have hms := (hI.pk h0).2.2.2.2.1
  have hrc := zRx_r (m := m0) (T := zCount 8300 X.1 X.2) (f := 13) (l := 420)
  generalize hτ : zFin 8300 X = τ at hI1 hm ⊢
  have K215 : zV p l e (zRmX 13 420 m0 (zCount 8300 X.1 X.2) 20) s m args below meth c D (zA G s.heap.size) 0 0 (zxZ below D G (fun v G9 => v = some (.int 1) ∧ zLq B x τ (max m0 (zCount 8300 X.1 X.2)) G9) (fun _ => False) args s (zRmX 13 420 m0 (zCount 8300 X.1 X.2) 20)) G 215 [some (.ref x), some (.ref b9), some (.int (nI t9)), some (.int (nI w9)), some (.int (nI k9)), some (.int (nI a9)), some (.int (nI d9)), none, none, none] [.int (zb (¬ zNot σ k9))] := by
    refine zz_istore (pc := 215) C dL_isDone_215 (Nat.le_of_ble_eq_true rfl) ?_
    refine zV.less (L' := [some (.ref (x)), some (.ref (b9)), some (.int (nI t9)), some (.int (nI w9)), some (.int (nI k9)), some (.int (nI a9)), some (.int (nI d9)), some (.int (zb (¬ zNot σ k9))), none, none]) ⟨rfl, rfl, rfl, rfl, rfl, rfl, rfl, rfl, trivial⟩ ?_
    refine zz_iload_n (pc := 217) C dL_isDone_217 rfl ?_
    refine zz_bipush (pc := 218) C (v := 25) (by decide) dL_isDone_218 ?_
    refine zz_icmp_ne (pc := 220) C (tgt := 369) dL_isDone_220 (by decide) (fun hc220 => ?_) (fun hc220 => ?_)
    · refine zz_iload_n (pc := 369) C dL_isDone_369 rfl ?_
      refine zz_bipush (pc := 370) C (v := 26) (by decide) dL_isDone_370 ?_
      refine zz_icmp_ne (pc := 372) C (tgt := 491) dL_isDone_372 (by decide) (fun hc372 => ?_) (fun hc372 => ?_)
      · exact absurd (by rw [show w9 = 26 by omega]; rfl) hc372
      · refine zz_aload_n (pc := 375) C dL_isDone_375 rfl ?_
        refine zz_iload (pc := 376) C dL_isDone_376 rfl ?_
        refine zz_iload (pc := 378) C dL_isDone_378 rfl ?_
        refine zz_sipush (pc := 380) C (v := 513) (by decide) dL_isDone_380 ?_
        refine zz_irem (pc := 383) C (a := a9) (d := 513) dL_isDone_383 rfl rfl (by omega) (by decide) (by decide) ?_
        refine zzx_callSW (pc := 384) C h8 ((c_L_setsMask l hl D (x9 := nI k9) (c9 := nI (a9 % 513)) (X := X) (N := 8300) hC hW (by rw [pnn hk]; exact hXe) (fun _ => hr)).imp (fun _ _ z => z.elim id (fun z => z.elim (fun y => absurd (hTH.symm.trans y.1) (by decide)) (fun z => z.elim (fun y => absurd (hTH.symm.trans y.1) (by decide)) (fun z => absurd (hTH.symm.trans z.1) (by decide))))) (fun _ z => z)) gL_isDone_L_setsMask rfl 3 (by decide +kernel) ⟨Nat.le_of_ble_eq_true rfl, Nat.le_of_ble_eq_true rfl⟩ rfl dL_isDone_384 rfl (Nat.le_of_ble_eq_true rfl) rfl (zRx_c (k := 3) (by decide)) (fun E hE => hE.elim) ?_
        rintro v G9 ⟨_, rfl, hC1⟩
        rw [pnn hk]
        rw [hτ] at hC1
        refine zV.widen (k := 5 + zW m0 (zCount 8300 X.1 X.2)) (n := 60 + 4 * zW m0 (zCount 8300 X.1 X.2)) (zRx_w5 (k := 3) (by decide)).1 (zRx_w5 (k := 3) (by decide)).2 ?_
        refine zz_istore (pc := 387) C dL_isDone_387 (Nat.le_of_ble_eq_true rfl) ?_
        refine zV.less (L' := [some (.ref (x)), some (.ref (b9)), some (.int (nI t9)), some (.int (nI w9)), some (.int (nI k9)), some (.int (nI a9)), some (.int (nI d9)), some (.int (zb (¬ zNot σ k9))), some (.int (σ 10 k9)), none]) ⟨rfl, rfl, rfl, rfl, rfl, rfl, rfl, rfl, rfl, trivial⟩ ?_
        refine zz_iload (pc := 389) C dL_isDone_389 rfl ?_
        refine zz_sipush (pc := 391) C (v := 513) (by decide) dL_isDone_391 ?_
        refine zz_irem (pc := 394) C (a := a9) (d := 513) dL_isDone_394 rfl rfl (by omega) (by decide) (by decide) ?_
        refine zz_sipush (pc := 395) C (v := 512) (by decide) dL_isDone_395 ?_
        refine zz_icmp_ne (pc := 398) C (tgt := 416) dL_isDone_398 (by decide) (fun hc398 => ?_) (fun hc398 => ?_)
        · refine zz_iload (pc := 416) C dL_isDone_416 rfl ?_
          refine zz_if_ne (pc := 418) C (tgt := 436) dL_isDone_418 (by decide) (fun hc418 => ?_) (fun hc418 => ?_)
          · refine zz_iload (pc := 436) C dL_isDone_436 rfl ?_
            refine zz_if_lt (pc := 438) C (tgt := 489) dL_isDone_438 (by decide) (fun hc438 => ?_) (fun hc438 => ?_)
            · exact absurd hc438 (zNN (z475_511 hms))
            · refine zz_iload (pc := 441) C dL_isDone_441 rfl ?_
              refine zz_bipush (pc := 443) C (v := 36) (by decide) dL_isDone_443 ?_
              refine zz_iand (pc := 445) C dL_isDone_445 ?_
              refine zz_if_ne (pc := 446) C (tgt := 489) dL_isDone_446 (by decide) (fun hc446 => ?_) (fun hc446 => ?_)
              · exact absurd (z475_36 hms) hc446
              · refine zz_aload_n (pc := 449) C dL_isDone_449 rfl ?_
                refine zz_iload (pc := 450) C dL_isDone_450 rfl ?_
                refine zz_callV (pc := 452) C (q_exists l D hC1 h1 hk (k := k9)) gL_isDone_X2_exists rfl 1 (by decide +kernel) ⟨Nat.le_of_ble_eq_true rfl, Nat.le_of_ble_eq_true rfl⟩ hC1.x (ci := 2) rfl rfl rfl dL_isDone_452 rfl (Nat.le_of_ble_eq_true rfl) rfl hrc ?_
                rintro v G9 ⟨rfl, rfl⟩
                refine zz_if_eq (pc := 455) C (tgt := 485) dL_isDone_455 (by decide) (fun hc455 => ?_) (fun hc455 => ?_)
                · refine zz_iconst (pc := 485) C (v := 1) (by decide) dL_isDone_485 ?_
                  refine zz_goto (pc := 486) C (tgt := 490) dL_isDone_486 (by decide) ?_
                  exact zzx_ret (zz_ireturn (pc := 490) C dL_isDone_490 (by first | rfl | exact zb_nar) hrc.1 hrc.2 ⟨rfl, ⟨tb, ev, A, hC1⟩⟩)
                · refine zz_aload_n (pc := 458) C dL_isDone_458 rfl ?_
                  refine zz_iload (pc := 459) C dL_isDone_459 rfl ?_
                  refine zz_callV (pc := 461) C (q_state l D hC1 h1 hk (zbp hc455) (k := k9)) gL_isDone_X2_state rfl 1 (by decide +kernel) ⟨Nat.le_of_ble_eq_true rfl, Nat.le_of_ble_eq_true rfl⟩ hC1.x (ci := 2) rfl rfl rfl dL_isDone_461 rfl (Nat.le_of_ble_eq_true rfl) rfl hrc ?_
                  rintro v G9 ⟨rfl, rfl⟩
                  refine zz_if_ne (pc := 464) C (tgt := 485) dL_isDone_464 (by decide) (fun hc464 => ?_) (fun hc464 => ?_)
                  · refine zz_iconst (pc := 485) C (v := 1) (by decide) dL_isDone_485 ?_
                    refine zz_goto (pc := 486) C (tgt := 490) dL_isDone_486 (by decide) ?_
                    exact zzx_ret (zz_ireturn (pc := 490) C dL_isDone_490 (by first | rfl | exact zb_nar) hrc.1 hrc.2 ⟨rfl, ⟨tb, ev, A, hC1⟩⟩)
                  · refine zz_aload_n (pc := 467) C dL_isDone_467 rfl ?_
                    refine zz_iload (pc := 468) C dL_isDone_468 rfl ?_
                    refine zz_callV (pc := 470) C (q_pending l D hC1 h1 hk (zbp hc455) (k := k9)) gL_isDone_X2_pending rfl 1 (by decide +kernel) ⟨Nat.le_of_ble_eq_true rfl, Nat.le_of_ble_eq_true rfl⟩ hC1.x (ci := 2) rfl rfl rfl dL_isDone_470 rfl (Nat.le_of_ble_eq_true rfl) rfl hrc ?_
                    rintro v G9 ⟨rfl, rfl⟩
                    refine zz_iload (pc := 473) C dL_isDone_473 rfl ?_
                    refine zz_sipush (pc := 475) C (v := 513) (by decide) dL_isDone_475 ?_
                    refine zz_irem (pc := 478) C (a := a9) (d := 513) dL_isDone_478 rfl rfl (by omega) (by decide) (by decide) ?_
                    refine zz_iconst (pc := 479) C (v := -1) (by decide) dL_isDone_479 ?_
                    refine zz_ixor (pc := 480) C dL_isDone_480 ?_
                    refine zz_iand (pc := 481) C dL_isDone_481 ?_
                    refine zz_if_ne (pc := 482) C (tgt := 489) dL_isDone_482 (by decide) (fun hc482 => ?_) (fun hc482 => ?_)
                    · exact absurd (zMasked (hI1.pk (zbp hc455)).2.1 (hI1.op (zbp hc455) (zCon_0.mp (Classical.not_not.mp hc464)).1 (zCon_0.mp (Classical.not_not.mp hc464)).2.1) hm) hc482
                    · refine zz_iconst (pc := 485) C (v := 1) (by decide) dL_isDone_485 ?_
                      refine zz_goto (pc := 486) C (tgt := 490) dL_isDone_486 (by decide) ?_
                      exact zzx_ret (zz_ireturn (pc := 490) C dL_isDone_490 (by first | rfl | exact zb_nar) hrc.1 hrc.2 ⟨rfl, ⟨tb, ev, A, hC1⟩⟩)
          · exact absurd (zb_ne.mpr hn) hc418
        · exact absurd ((nI_eq (a := a9 % 513) (b := 512) (by omega) (by decide)).mp (Classical.not_not.mp hc398)) (by omega)
    · exact absurd ((nI_eq (a := w9) (b := 25) (by omega) (by decide)).mp (Classical.not_not.mp hc220)) (by omega)
  refine t_L_isDone l D hC (rm := (zRmX 12 340 m0 (zCount 8300 X.1 X.2) 20)) C h8 hX hbl hbA hW hv P0 P1 P2 P3 ?_
  rw [ek]
  refine zz_iload_n (pc := 48) C dL_isDone_48 rfl ?_
  refine zz_bipush (pc := 49) C (v := 8) (by decide) dL_isDone_49 ?_
  refine zz_icmp_ge (pc := 51) C (tgt := 61) dL_isDone_51 (by decide) (fun hc51 => ?_) (fun hc51 => ?_)
  · refine zz_iload_n (pc := 61) C dL_isDone_61 rfl ?_
    refine zz_bipush (pc := 62) C (v := 10) (by decide) dL_isDone_62 ?_
    refine zz_icmp_ge (pc := 64) C (tgt := 80) dL_isDone_64 (by decide) (fun hc64 => ?_) (fun hc64 => ?_)
    · refine zz_iload_n (pc := 80) C dL_isDone_80 rfl ?_
      refine zz_bipush (pc := 81) C (v := 13) (by decide) dL_isDone_81 ?_
      refine zz_icmp_ge (pc := 83) C (tgt := 121) dL_isDone_83 (by decide) (fun hc83 => ?_) (fun hc83 => ?_)
      · refine zz_iload_n (pc := 121) C dL_isDone_121 rfl ?_
        refine zz_bipush (pc := 122) C (v := 18) (by decide) dL_isDone_122 ?_
        refine zz_icmp_ge (pc := 124) C (tgt := 139) dL_isDone_124 (by decide) (fun hc124 => ?_) (fun hc124 => ?_)
        · refine zz_iload_n (pc := 139) C dL_isDone_139 rfl ?_
          refine zz_bipush (pc := 140) C (v := 21) (by decide) dL_isDone_140 ?_
          refine zz_icmp_ge (pc := 142) C (tgt := 165) dL_isDone_142 (by decide) (fun hc142 => ?_) (fun hc142 => ?_)
          · refine zz_iload_n (pc := 165) C dL_isDone_165 rfl ?_
            refine zz_bipush (pc := 166) C (v := 23) (by decide) dL_isDone_166 ?_
            refine zz_icmp_ge (pc := 168) C (tgt := 178) dL_isDone_168 (by decide) (fun hc168 => ?_) (fun hc168 => ?_)
            · refine zz_iload_n (pc := 178) C dL_isDone_178 rfl ?_
              refine zz_bipush (pc := 179) C (v := 25) (by decide) dL_isDone_179 ?_
              refine zz_icmp_ge (pc := 181) C (tgt := 195) dL_isDone_181 (by decide) (fun hc181 => ?_) (fun hc181 => ?_)
              · refine zz_iload (pc := 195) C dL_isDone_195 rfl ?_
                refine zz_iconst (pc := 197) C (v := 1) (by decide) dL_isDone_197 ?_
                refine zz_icmp_le (pc := 198) C (tgt := 214) dL_isDone_198 (by decide) (fun hc198 => ?_) (fun hc198 => ?_)
                · refine zz_iconst (pc := 214) C (v := 0) (by decide) dL_isDone_214 ?_
                  exact zV.less (L' := [some (.ref x), some (.ref b9), some (.int (nI t9)), some (.int (nI w9)), some (.int (nI k9)), some (.int (nI a9)), some (.int (nI d9)), none, none, none]) ⟨rfl, rfl, rfl, rfl, rfl, rfl, rfl, trivial⟩ (zV.topK K215 ((zb_f (fun z => z (Or.inl (zLe1 h1 hk hc198)))).symm))
                · refine zz_aload_n (pc := 201) C dL_isDone_201 rfl ?_
                  refine zz_iload (pc := 202) C dL_isDone_202 rfl ?_
                  refine zz_callV (pc := 204) C (q_state l D hC h1 hk h0) gL_isDone_X2_state rfl 1 (by decide +kernel) ⟨Nat.le_of_ble_eq_true rfl, Nat.le_of_ble_eq_true rfl⟩ hC.x (ci := 2) rfl rfl rfl dL_isDone_204 rfl (Nat.le_of_ble_eq_true rfl) rfl (zRx_0 (Nat.le_of_ble_eq_true rfl) (Nat.le_of_ble_eq_true rfl)) ?_
                  rintro v G9 ⟨rfl, rfl⟩
                  refine zz_if_ne (pc := 207) C (tgt := 214) dL_isDone_207 (by decide) (fun hc207 => ?_) (fun hc207 => ?_)
                  · refine zz_iconst (pc := 214) C (v := 0) (by decide) dL_isDone_214 ?_
                    exact zV.less (L' := [some (.ref x), some (.ref b9), some (.int (nI t9)), some (.int (nI w9)), some (.int (nI k9)), some (.int (nI a9)), some (.int (nI d9)), none, none, none]) ⟨rfl, rfl, rfl, rfl, rfl, rfl, rfl, trivial⟩ (zV.topK K215 ((zb_f (fun z => z (Or.inr (fun y => hc207 (zCon_0.mpr y))))).symm))
                  · refine zz_iconst (pc := 210) C (v := 1) (by decide) dL_isDone_210 ?_
                    refine zz_goto (pc := 211) C (tgt := 215) dL_isDone_211 (by decide) ?_
                    exact zV.less (L' := [some (.ref x), some (.ref b9), some (.int (nI t9)), some (.int (nI w9)), some (.int (nI k9)), some (.int (nI a9)), some (.int (nI d9)), none, none, none]) ⟨rfl, rfl, rfl, rfl, rfl, rfl, rfl, trivial⟩ (zV.topK K215 ((zb_t (show ¬ zNot σ k9 from fun z => z.elim (fun y => hc198 (by rw [y]; decide)) (fun y => y (zCon_0.mp (Classical.not_not.mp hc207))))).symm))
              · exact absurd ((nI_leI (a := 25) (b := w9) (by decide) (by omega)).mpr (by omega)) hc181
            · exact absurd ((nI_leI (a := 23) (b := w9) (by decide) (by omega)).mpr (by omega)) hc168
          · exact absurd ((nI_leI (a := 21) (b := w9) (by decide) (by omega)).mpr (by omega)) hc142
        · exact absurd ((nI_leI (a := 18) (b := w9) (by decide) (by omega)).mpr (by omega)) hc124
      · exact absurd ((nI_leI (a := 13) (b := w9) (by decide) (by omega)).mpr (by omega)) hc83
    · exact absurd ((nI_leI (a := 10) (b := w9) (by decide) (by omega)).mpr (by omega)) hc64
  · exact absurd ((nI_leI (a := 8) (b := w9) (by decide) (by omega)).mpr (by omega)) hc51
set_option maxHeartbeats 4000000 in
set_option maxRecDepth 100000 in
theorem d_exec_n (l : Launch) (hl : l.stackTraces = false) (D : va_G) {B G : zG} {x tb ev : Nat} {A : Nat → Nat} {σ : zS} {m0 : Nat} (hC : zCl B x tb ev A σ [] 0 m0 G) (hI : zIv 0 σ []) {b9 Ln t9 w9 v9 a9 d9 k9 : Nat} {xs : Nat → Int32} (hv : v9 < 2 ^ 31) (ha : a9 < 5000) (hd : d9 < 6000) (P0 : zsMet D l yL_part wsL_part ({ frames := 1, cells := 0, slots := 0, locals := 30 } : Room) [.ref b9, .int (nI t9), .int (nI 30)] G b9 Ln xs (fun v G9 => v = some (.int (nI w9)) ∧ G9 = G) (fun _ => False)) (P1 : zsMet D l yL_part wsL_part ({ frames := 1, cells := 0, slots := 0, locals := 30 } : Room) [.ref b9, .int (nI (t9 + 1)), .int (nI 4000)] G b9 Ln xs (fun v G9 => v = some (.int (nI v9)) ∧ G9 = G) (fun _ => False)) (P2 : zsMet D l yL_part wsL_part ({ frames := 1, cells := 0, slots := 0, locals := 30 } : Room) [.ref b9, .int (nI (t9 + 2)), .int (nI 5000)] G b9 Ln xs (fun v G9 => v = some (.int (nI a9)) ∧ G9 = G) (fun _ => False)) (P3 : zsMet D l yL_part wsL_part ({ frames := 1, cells := 0, slots := 0, locals := 30 } : Room) [.ref b9, .int (nI (t9 + 3)), .int (nI 6000)] G b9 Ln xs (fun v G9 => v = some (.int (nI d9)) ∧ G9 = G) (fun _ => False)) (ek : zPid σ 40 (v9 % 40 + 1) = k9)  (h1 : 1 ≤ k9) (hk : k9 < 41) (h0 : σ 0 k9 ≠ 0) (hw : w9 = 27) (hn : zNot σ k9) : zsMet D l yL_isDone wsL_isDone ({ frames := 13, cells := 20, slots := 120, locals := 420 } : Room) [.ref x, .ref b9, .int (nI t9)] G b9 Ln xs (fun v G9 => v = some (.int 1) ∧ zLq B x σ m0 G9) (fun _ => False) := by
  refine zsMet_of (cc := cL_isDone) (maxL := 10) (ret := (some .boolean)) (by decide) rfl (Nat.le_of_ble_eq_true rfl) ?_
  intro p e s m args below meth c C hnx h8 hX hbl hbA
  have hW := hI.wf
  have hTH : zE2 (¬ zHere σ (nI k9)) (zNot σ (pn (nI k9))) = 2 := zE2_2 (fun z => z (zHere_n h1 hk h0)) (by rw [pnn hk]; exact hn)
  have K215 : zV p l e ({ frames := 13, cells := 20, slots := 120, locals := 420 } : Room) s m args below meth c D (zA G s.heap.size) 0 0 (zxZ below D G (fun v G9 => v = some (.int 1) ∧ zLq B x σ m0 G9) (fun _ => False) args s ({ frames := 13, cells := 20, slots := 120, locals := 420 } : Room)) G 215 [some (.ref x), some (.ref b9), some (.int (nI t9)), some (.int (nI w9)), some (.int (nI k9)), some (.int (nI a9)), some (.int (nI d9)), none, none, none] [.int (zb (¬ zNot σ k9))] := by
    refine zz_istore (pc := 215) C dL_isDone_215 (Nat.le_of_ble_eq_true rfl) ?_
    refine zV.less (L' := [some (.ref (x)), some (.ref (b9)), some (.int (nI t9)), some (.int (nI w9)), some (.int (nI k9)), some (.int (nI a9)), some (.int (nI d9)), some (.int (zb (¬ zNot σ k9))), none, none]) ⟨rfl, rfl, rfl, rfl, rfl, rfl, rfl, rfl, trivial⟩ ?_
    refine zz_iload_n (pc := 217) C dL_isDone_217 rfl ?_
    refine zz_bipush (pc := 218) C (v := 25) (by decide) dL_isDone_218 ?_
    refine zz_icmp_ne (pc := 220) C (tgt := 369) dL_isDone_220 (by decide) (fun hc220 => ?_) (fun hc220 => ?_)
    · refine zz_iload_n (pc := 369) C dL_isDone_369 rfl ?_
      refine zz_bipush (pc := 370) C (v := 26) (by decide) dL_isDone_370 ?_
      refine zz_icmp_ne (pc := 372) C (tgt := 491) dL_isDone_372 (by decide) (fun hc372 => ?_) (fun hc372 => ?_)
      · refine zz_iload_n (pc := 491) C dL_isDone_491 rfl ?_
        refine zz_bipush (pc := 492) C (v := 27) (by decide) dL_isDone_492 ?_
        refine zz_icmp_ne (pc := 494) C (tgt := 552) dL_isDone_494 (by decide) (fun hc494 => ?_) (fun hc494 => ?_)
        · exact absurd (by rw [show w9 = 27 by omega]; rfl) hc494
        · refine zz_aload_n (pc := 497) C dL_isDone_497 rfl ?_
          refine zz_iload (pc := 498) C dL_isDone_498 rfl ?_
          refine zzx_callSW (pc := 500) C h8 ((c_L_execs l hl D (x9 := nI k9) hC).imp (fun _ _ z => z.elim (fun y => absurd (hTH.symm.trans y.1) (by decide)) (fun z => z.elim (fun y => absurd (hTH.symm.trans y.1) (by decide)) (fun z => z))) (fun _ z => z)) gL_isDone_L_execs rfl 2 (by decide +kernel) ⟨Nat.le_of_ble_eq_true rfl, Nat.le_of_ble_eq_true rfl⟩ rfl dL_isDone_500 rfl (Nat.le_of_ble_eq_true rfl) rfl ⟨Nat.le_of_ble_eq_true rfl, Nat.le_of_ble_eq_true rfl⟩ (fun E hE => hE.elim) ?_
          rintro v G9 ⟨_, rfl, rfl⟩
          refine zz_istore (pc := 503) C dL_isDone_503 (Nat.le_of_ble_eq_true rfl) ?_
          refine zV.less (L' := [some (.ref (x)), some (.ref (b9)), some (.int (nI t9)), some (.int (nI w9)), some (.int (nI k9)), some (.int (nI a9)), some (.int (nI d9)), some (.int (zb (¬ zNot σ k9))), some (.int (-10)), none]) ⟨rfl, rfl, rfl, rfl, rfl, rfl, rfl, rfl, rfl, trivial⟩ ?_
          refine zz_iload (pc := 505) C dL_isDone_505 rfl ?_
          refine zz_if_eq (pc := 507) C (tgt := 539) dL_isDone_507 (by decide) (fun hc507 => ?_) (fun hc507 => ?_)
          · refine zz_iload (pc := 539) C dL_isDone_539 rfl ?_
            refine zz_bipush (pc := 541) C (v := -10) (by decide) dL_isDone_541 ?_
            refine zz_icmp_ne (pc := 543) C (tgt := 550) dL_isDone_543 (by decide) (fun hc543 => ?_) (fun hc543 => ?_)
            · exact absurd rfl hc543
            · refine zz_iconst (pc := 546) C (v := 1) (by decide) dL_isDone_546 ?_
              refine zz_goto (pc := 547) C (tgt := 551) dL_isDone_547 (by decide) ?_
              exact zzx_ret (zz_ireturn (pc := 551) C dL_isDone_551 (by first | rfl | exact zb_nar) (Nat.le_of_ble_eq_true rfl) (Nat.le_of_ble_eq_true rfl) ⟨rfl, ⟨tb, ev, A, hC⟩⟩)
          · exact absurd hn (zbp hc507)
      · exact absurd ((nI_eq (a := w9) (b := 26) (by omega) (by decide)).mp (Classical.not_not.mp hc372)) (by omega)
    · exact absurd ((nI_eq (a := w9) (b := 25) (by omega) (by decide)).mp (Classical.not_not.mp hc220)) (by omega)
  refine t_L_isDone l D hC (rm := ({ frames := 12, cells := 20, slots := 120, locals := 340 } : Room)) C h8 hX hbl hbA hW hv P0 P1 P2 P3 ?_
  rw [ek]
  refine zz_iload_n (pc := 48) C dL_isDone_48 rfl ?_
  refine zz_bipush (pc := 49) C (v := 8) (by decide) dL_isDone_49 ?_
  refine zz_icmp_ge (pc := 51) C (tgt := 61) dL_isDone_51 (by decide) (fun hc51 => ?_) (fun hc51 => ?_)
  · refine zz_iload_n (pc := 61) C dL_isDone_61 rfl ?_
    refine zz_bipush (pc := 62) C (v := 10) (by decide) dL_isDone_62 ?_
    refine zz_icmp_ge (pc := 64) C (tgt := 80) dL_isDone_64 (by decide) (fun hc64 => ?_) (fun hc64 => ?_)
    · refine zz_iload_n (pc := 80) C dL_isDone_80 rfl ?_
      refine zz_bipush (pc := 81) C (v := 13) (by decide) dL_isDone_81 ?_
      refine zz_icmp_ge (pc := 83) C (tgt := 121) dL_isDone_83 (by decide) (fun hc83 => ?_) (fun hc83 => ?_)
      · refine zz_iload_n (pc := 121) C dL_isDone_121 rfl ?_
        refine zz_bipush (pc := 122) C (v := 18) (by decide) dL_isDone_122 ?_
        refine zz_icmp_ge (pc := 124) C (tgt := 139) dL_isDone_124 (by decide) (fun hc124 => ?_) (fun hc124 => ?_)
        · refine zz_iload_n (pc := 139) C dL_isDone_139 rfl ?_
          refine zz_bipush (pc := 140) C (v := 21) (by decide) dL_isDone_140 ?_
          refine zz_icmp_ge (pc := 142) C (tgt := 165) dL_isDone_142 (by decide) (fun hc142 => ?_) (fun hc142 => ?_)
          · refine zz_iload_n (pc := 165) C dL_isDone_165 rfl ?_
            refine zz_bipush (pc := 166) C (v := 23) (by decide) dL_isDone_166 ?_
            refine zz_icmp_ge (pc := 168) C (tgt := 178) dL_isDone_168 (by decide) (fun hc168 => ?_) (fun hc168 => ?_)
            · refine zz_iload_n (pc := 178) C dL_isDone_178 rfl ?_
              refine zz_bipush (pc := 179) C (v := 25) (by decide) dL_isDone_179 ?_
              refine zz_icmp_ge (pc := 181) C (tgt := 195) dL_isDone_181 (by decide) (fun hc181 => ?_) (fun hc181 => ?_)
              · refine zz_iload (pc := 195) C dL_isDone_195 rfl ?_
                refine zz_iconst (pc := 197) C (v := 1) (by decide) dL_isDone_197 ?_
                refine zz_icmp_le (pc := 198) C (tgt := 214) dL_isDone_198 (by decide) (fun hc198 => ?_) (fun hc198 => ?_)
                · refine zz_iconst (pc := 214) C (v := 0) (by decide) dL_isDone_214 ?_
                  exact zV.less (L' := [some (.ref x), some (.ref b9), some (.int (nI t9)), some (.int (nI w9)), some (.int (nI k9)), some (.int (nI a9)), some (.int (nI d9)), none, none, none]) ⟨rfl, rfl, rfl, rfl, rfl, rfl, rfl, trivial⟩ (zV.topK K215 ((zb_f (fun z => z (Or.inl (zLe1 h1 hk hc198)))).symm))
                · refine zz_aload_n (pc := 201) C dL_isDone_201 rfl ?_
                  refine zz_iload (pc := 202) C dL_isDone_202 rfl ?_
                  refine zz_callV (pc := 204) C (q_state l D hC h1 hk h0) gL_isDone_X2_state rfl 1 (by decide +kernel) ⟨Nat.le_of_ble_eq_true rfl, Nat.le_of_ble_eq_true rfl⟩ hC.x (ci := 2) rfl rfl rfl dL_isDone_204 rfl (Nat.le_of_ble_eq_true rfl) rfl ⟨Nat.le_of_ble_eq_true rfl, Nat.le_of_ble_eq_true rfl⟩ ?_
                  rintro v G9 ⟨rfl, rfl⟩
                  refine zz_if_ne (pc := 207) C (tgt := 214) dL_isDone_207 (by decide) (fun hc207 => ?_) (fun hc207 => ?_)
                  · refine zz_iconst (pc := 214) C (v := 0) (by decide) dL_isDone_214 ?_
                    exact zV.less (L' := [some (.ref x), some (.ref b9), some (.int (nI t9)), some (.int (nI w9)), some (.int (nI k9)), some (.int (nI a9)), some (.int (nI d9)), none, none, none]) ⟨rfl, rfl, rfl, rfl, rfl, rfl, rfl, trivial⟩ (zV.topK K215 ((zb_f (fun z => z (Or.inr (fun y => hc207 (zCon_0.mpr y))))).symm))
                  · refine zz_iconst (pc := 210) C (v := 1) (by decide) dL_isDone_210 ?_
                    refine zz_goto (pc := 211) C (tgt := 215) dL_isDone_211 (by decide) ?_
                    exact zV.less (L' := [some (.ref x), some (.ref b9), some (.int (nI t9)), some (.int (nI w9)), some (.int (nI k9)), some (.int (nI a9)), some (.int (nI d9)), none, none, none]) ⟨rfl, rfl, rfl, rfl, rfl, rfl, rfl, trivial⟩ (zV.topK K215 ((zb_t (show ¬ zNot σ k9 from fun z => z.elim (fun y => hc198 (by rw [y]; decide)) (fun y => y (zCon_0.mp (Classical.not_not.mp hc207))))).symm))
              · exact absurd ((nI_leI (a := 25) (b := w9) (by decide) (by omega)).mpr (by omega)) hc181
            · exact absurd ((nI_leI (a := 23) (b := w9) (by decide) (by omega)).mpr (by omega)) hc168
          · exact absurd ((nI_leI (a := 21) (b := w9) (by decide) (by omega)).mpr (by omega)) hc142
        · exact absurd ((nI_leI (a := 18) (b := w9) (by decide) (by omega)).mpr (by omega)) hc124
      · exact absurd ((nI_leI (a := 13) (b := w9) (by decide) (by omega)).mpr (by omega)) hc83
    · exact absurd ((nI_leI (a := 10) (b := w9) (by decide) (by omega)).mpr (by omega)) hc64
  · exact absurd ((nI_leI (a := 8) (b := w9) (by decide) (by omega)).mpr (by omega)) hc51
set_option maxHeartbeats 4000000 in
set_option maxRecDepth 100000 in
theorem d_exec_y (l : Launch) (hl : l.stackTraces = false) (D : va_G) {B G : zG} {x tb ev : Nat} {A : Nat → Nat} {σ : zS} {m0 : Nat} (hC : zCl B x tb ev A σ [] 0 m0 G) (hI : zIv 0 σ []) {b9 Ln t9 w9 v9 a9 d9 k9 : Nat} {xs : Nat → Int32} (hv : v9 < 2 ^ 31) (ha : a9 < 5000) (hd : d9 < 6000) (P0 : zsMet D l yL_part wsL_part ({ frames := 1, cells := 0, slots := 0, locals := 30 } : Room) [.ref b9, .int (nI t9), .int (nI 30)] G b9 Ln xs (fun v G9 => v = some (.int (nI w9)) ∧ G9 = G) (fun _ => False)) (P1 : zsMet D l yL_part wsL_part ({ frames := 1, cells := 0, slots := 0, locals := 30 } : Room) [.ref b9, .int (nI (t9 + 1)), .int (nI 4000)] G b9 Ln xs (fun v G9 => v = some (.int (nI v9)) ∧ G9 = G) (fun _ => False)) (P2 : zsMet D l yL_part wsL_part ({ frames := 1, cells := 0, slots := 0, locals := 30 } : Room) [.ref b9, .int (nI (t9 + 2)), .int (nI 5000)] G b9 Ln xs (fun v G9 => v = some (.int (nI a9)) ∧ G9 = G) (fun _ => False)) (P3 : zsMet D l yL_part wsL_part ({ frames := 1, cells := 0, slots := 0, locals := 30 } : Room) [.ref b9, .int (nI (t9 + 3)), .int (nI 6000)] G b9 Ln xs (fun v G9 => v = some (.int (nI d9)) ∧ G9 = G) (fun _ => False)) (ek : zPid σ 40 (v9 % 40 + 1) = k9) {τ τ2 : zS} (h1 : 1 ≤ k9) (hk : k9 < 41) (h0 : σ 0 k9 ≠ 0) (hw : w9 = 27) (hn : ¬ zNot σ k9) (hτ : zExecN σ k9 9 = τ) (hτ2 : zExecN τ k9 9 = τ2) : zsMet D l yL_isDone wsL_isDone ({ frames := 13, cells := 20, slots := 120, locals := 420 } : Room) [.ref x, .ref b9, .int (nI t9)] G b9 Ln xs (fun v G9 => v = some (.int 1) ∧ zLq B x τ2 m0 G9) (fun _ => False) := by
  refine zsMet_of (cc := cL_isDone) (maxL := 10) (ret := (some .boolean)) (by decide) rfl (Nat.le_of_ble_eq_true rfl) ?_
  intro p e s m args below meth c C hnx h8 hX hbl hbA
  have hW := hI.wf
  have q0 : τ 0 k9 ≠ 0 := by rw [← hτ, zExecN_off (by decide) (by decide)]; exact h0
  have hn1 : ¬ zNot τ k9 := by unfold zNot zRunN; rw [← hτ, zExecN_off (by decide) (by decide), zExecN_off (by decide) (by decide), zExecN_off (by decide) (by decide)]; exact hn
  have qc : zCatN τ k9 9 = 0 := by rw [← hτ]; exact zCat0
  have q7 := zCat7 (hI.pk h0).2.2.2.2.2.1 (hI.pk h0).2.2.2.2.2.2
  have hTH : zE2 (¬ zHere σ (nI k9)) (zNot σ (pn (nI k9))) = 0 := zE2_0 (fun z => z (zHere_n h1 hk h0)) (by rw [pnn hk]; exact hn)
  have hTH2 : zE2 (¬ zHere τ (nI k9)) (zNot τ (pn (nI k9))) = 0 := zE2_0 (fun z => z (zHere_n h1 hk q0)) (by rw [pnn hk]; exact hn1)
  have K215 : zV p l e ({ frames := 13, cells := 20, slots := 120, locals := 420 } : Room) s m args below meth c D (zA G s.heap.size) 0 0 (zxZ below D G (fun v G9 => v = some (.int 1) ∧ zLq B x τ2 m0 G9) (fun _ => False) args s ({ frames := 13, cells := 20, slots := 120, locals := 420 } : Room)) G 215 [some (.ref x), some (.ref b9), some (.int (nI t9)), some (.int (nI w9)), some (.int (nI k9)), some (.int (nI a9)), some (.int (nI d9)), none, none, none] [.int (zb (¬ zNot σ k9))] := by
    refine zz_istore (pc := 215) C dL_isDone_215 (Nat.le_of_ble_eq_true rfl) ?_
    refine zV.less (L' := [some (.ref (x)), some (.ref (b9)), some (.int (nI t9)), some (.int (nI w9)), some (.int (nI k9)), some (.int (nI a9)), some (.int (nI d9)), some (.int (zb (¬ zNot σ k9))), none, none]) ⟨rfl, rfl, rfl, rfl, rfl, rfl, rfl, rfl, trivial⟩ ?_
    refine zz_iload_n (pc := 217) C dL_isDone_217 rfl ?_
    refine zz_bipush (pc := 218) C (v := 25) (by decide) dL_isDone_218 ?_
    refine zz_icmp_ne (pc := 220) C (tgt := 369) dL_isDone_220 (by decide) (fun hc220 => ?_) (fun hc220 => ?_)
    · refine zz_iload_n (pc := 369) C dL_isDone_369 rfl ?_
      refine zz_bipush (pc := 370) C (v := 26) (by decide) dL_isDone_370 ?_
      refine zz_icmp_ne (pc := 372) C (tgt := 491) dL_isDone_372 (by decide) (fun hc372 => ?_) (fun hc372 => ?_)
      · refine zz_iload_n (pc := 491) C dL_isDone_491 rfl ?_
        refine zz_bipush (pc := 492) C (v := 27) (by decide) dL_isDone_492 ?_
        refine zz_icmp_ne (pc := 494) C (tgt := 552) dL_isDone_494 (by decide) (fun hc494 => ?_) (fun hc494 => ?_)
        · exact absurd (by rw [show w9 = 27 by omega]; rfl) hc494
        · refine zz_aload_n (pc := 497) C dL_isDone_497 rfl ?_
          refine zz_iload (pc := 498) C dL_isDone_498 rfl ?_
          refine zzx_callSW (pc := 500) C h8 ((c_L_execs l hl D (x9 := nI k9) hC).imp (fun _ _ z => z.elim id (fun z => z.elim (fun y => absurd (hTH.symm.trans y.1) (by decide)) (fun z => absurd (hTH.symm.trans z.1) (by decide)))) (fun _ z => z)) gL_isDone_L_execs rfl 2 (by decide +kernel) ⟨Nat.le_of_ble_eq_true rfl, Nat.le_of_ble_eq_true rfl⟩ rfl dL_isDone_500 rfl (Nat.le_of_ble_eq_true rfl) rfl ⟨Nat.le_of_ble_eq_true rfl, Nat.le_of_ble_eq_true rfl⟩ (fun E hE => hE.elim) ?_
          rintro v G9 ⟨_, rfl, hC1⟩
          rw [pnn hk]
          rw [pnn hk, hτ] at hC1
          refine zz_istore (pc := 503) C dL_isDone_503 (Nat.le_of_ble_eq_true rfl) ?_
          refine zV.less (L' := [some (.ref (x)), some (.ref (b9)), some (.int (nI t9)), some (.int (nI w9)), some (.int (nI k9)), some (.int (nI a9)), some (.int (nI d9)), some (.int (zb (¬ zNot σ k9))), some (.int (nI (zCatN σ k9 9))), none]) ⟨rfl, rfl, rfl, rfl, rfl, rfl, rfl, rfl, rfl, trivial⟩ ?_
          refine zz_iload (pc := 505) C dL_isDone_505 rfl ?_
          refine zz_if_eq (pc := 507) C (tgt := 539) dL_isDone_507 (by decide) (fun hc507 => ?_) (fun hc507 => ?_)
          · exact False.elim (zb_eq.mp hc507 hn)
          · refine zz_iload (pc := 510) C dL_isDone_510 rfl ?_
            refine zz_if_lt (pc := 512) C (tgt := 535) dL_isDone_512 (by decide) (fun hc512 => ?_) (fun hc512 => ?_)
            · exact absurd hc512 (nI_nlt (a := zCatN σ k9 9) (b := 0) (by omega) (by omega))
            · refine zz_iload (pc := 515) C dL_isDone_515 rfl ?_
              refine zz_bipush (pc := 517) C (v := 8) (by decide) dL_isDone_517 ?_
              refine zz_icmp_ge (pc := 519) C (tgt := 535) dL_isDone_519 (by decide) (fun hc519 => ?_) (fun hc519 => ?_)
              · exact absurd ((nI_leI (a := 8) (b := zCatN σ k9 9) (by decide) (by omega)).mp hc519) (by omega)
              · refine zz_aload_n (pc := 522) C dL_isDone_522 rfl ?_
                refine zz_iload (pc := 523) C dL_isDone_523 rfl ?_
                refine zzx_callSW (pc := 525) C h8 ((c_L_execs l hl D (x9 := nI k9) hC1).imp (fun _ _ z => z.elim id (fun z => z.elim (fun y => absurd (hTH2.symm.trans y.1) (by decide)) (fun z => absurd (hTH2.symm.trans z.1) (by decide)))) (fun _ z => z)) gL_isDone_L_execs rfl 2 (by decide +kernel) ⟨Nat.le_of_ble_eq_true rfl, Nat.le_of_ble_eq_true rfl⟩ rfl dL_isDone_525 rfl (Nat.le_of_ble_eq_true rfl) rfl ⟨Nat.le_of_ble_eq_true rfl, Nat.le_of_ble_eq_true rfl⟩ (fun E hE => hE.elim) ?_
                rintro v G9 ⟨_, rfl, hC2⟩
                rw [pnn hk, qc]
                rw [pnn hk, hτ2] at hC2
                refine zz_if_ne (pc := 528) C (tgt := 535) dL_isDone_528 (by decide) (fun hc528 => ?_) (fun hc528 => ?_)
                · exact absurd rfl hc528
                · refine zz_iconst (pc := 531) C (v := 1) (by decide) dL_isDone_531 ?_
                  refine zz_goto (pc := 532) C (tgt := 551) dL_isDone_532 (by decide) ?_
                  exact zzx_ret (zz_ireturn (pc := 551) C dL_isDone_551 (by first | rfl | exact zb_nar) (Nat.le_of_ble_eq_true rfl) (Nat.le_of_ble_eq_true rfl) ⟨rfl, ⟨tb, ev, A, hC2⟩⟩)
      · exact absurd ((nI_eq (a := w9) (b := 26) (by omega) (by decide)).mp (Classical.not_not.mp hc372)) (by omega)
    · exact absurd ((nI_eq (a := w9) (b := 25) (by omega) (by decide)).mp (Classical.not_not.mp hc220)) (by omega)
  refine t_L_isDone l D hC (rm := ({ frames := 12, cells := 20, slots := 120, locals := 340 } : Room)) C h8 hX hbl hbA hW hv P0 P1 P2 P3 ?_
  rw [ek]
  refine zz_iload_n (pc := 48) C dL_isDone_48 rfl ?_
  refine zz_bipush (pc := 49) C (v := 8) (by decide) dL_isDone_49 ?_
  refine zz_icmp_ge (pc := 51) C (tgt := 61) dL_isDone_51 (by decide) (fun hc51 => ?_) (fun hc51 => ?_)
  · refine zz_iload_n (pc := 61) C dL_isDone_61 rfl ?_
    refine zz_bipush (pc := 62) C (v := 10) (by decide) dL_isDone_62 ?_
    refine zz_icmp_ge (pc := 64) C (tgt := 80) dL_isDone_64 (by decide) (fun hc64 => ?_) (fun hc64 => ?_)
    · refine zz_iload_n (pc := 80) C dL_isDone_80 rfl ?_
      refine zz_bipush (pc := 81) C (v := 13) (by decide) dL_isDone_81 ?_
      refine zz_icmp_ge (pc := 83) C (tgt := 121) dL_isDone_83 (by decide) (fun hc83 => ?_) (fun hc83 => ?_)
      · refine zz_iload_n (pc := 121) C dL_isDone_121 rfl ?_
        refine zz_bipush (pc := 122) C (v := 18) (by decide) dL_isDone_122 ?_
        refine zz_icmp_ge (pc := 124) C (tgt := 139) dL_isDone_124 (by decide) (fun hc124 => ?_) (fun hc124 => ?_)
        · refine zz_iload_n (pc := 139) C dL_isDone_139 rfl ?_
          refine zz_bipush (pc := 140) C (v := 21) (by decide) dL_isDone_140 ?_
          refine zz_icmp_ge (pc := 142) C (tgt := 165) dL_isDone_142 (by decide) (fun hc142 => ?_) (fun hc142 => ?_)
          · refine zz_iload_n (pc := 165) C dL_isDone_165 rfl ?_
            refine zz_bipush (pc := 166) C (v := 23) (by decide) dL_isDone_166 ?_
            refine zz_icmp_ge (pc := 168) C (tgt := 178) dL_isDone_168 (by decide) (fun hc168 => ?_) (fun hc168 => ?_)
            · refine zz_iload_n (pc := 178) C dL_isDone_178 rfl ?_
              refine zz_bipush (pc := 179) C (v := 25) (by decide) dL_isDone_179 ?_
              refine zz_icmp_ge (pc := 181) C (tgt := 195) dL_isDone_181 (by decide) (fun hc181 => ?_) (fun hc181 => ?_)
              · refine zz_iload (pc := 195) C dL_isDone_195 rfl ?_
                refine zz_iconst (pc := 197) C (v := 1) (by decide) dL_isDone_197 ?_
                refine zz_icmp_le (pc := 198) C (tgt := 214) dL_isDone_198 (by decide) (fun hc198 => ?_) (fun hc198 => ?_)
                · refine zz_iconst (pc := 214) C (v := 0) (by decide) dL_isDone_214 ?_
                  exact zV.less (L' := [some (.ref x), some (.ref b9), some (.int (nI t9)), some (.int (nI w9)), some (.int (nI k9)), some (.int (nI a9)), some (.int (nI d9)), none, none, none]) ⟨rfl, rfl, rfl, rfl, rfl, rfl, rfl, trivial⟩ (zV.topK K215 ((zb_f (fun z => z (Or.inl (zLe1 h1 hk hc198)))).symm))
                · refine zz_aload_n (pc := 201) C dL_isDone_201 rfl ?_
                  refine zz_iload (pc := 202) C dL_isDone_202 rfl ?_
                  refine zz_callV (pc := 204) C (q_state l D hC h1 hk h0) gL_isDone_X2_state rfl 1 (by decide +kernel) ⟨Nat.le_of_ble_eq_true rfl, Nat.le_of_ble_eq_true rfl⟩ hC.x (ci := 2) rfl rfl rfl dL_isDone_204 rfl (Nat.le_of_ble_eq_true rfl) rfl ⟨Nat.le_of_ble_eq_true rfl, Nat.le_of_ble_eq_true rfl⟩ ?_
                  rintro v G9 ⟨rfl, rfl⟩
                  refine zz_if_ne (pc := 207) C (tgt := 214) dL_isDone_207 (by decide) (fun hc207 => ?_) (fun hc207 => ?_)
                  · refine zz_iconst (pc := 214) C (v := 0) (by decide) dL_isDone_214 ?_
                    exact zV.less (L' := [some (.ref x), some (.ref b9), some (.int (nI t9)), some (.int (nI w9)), some (.int (nI k9)), some (.int (nI a9)), some (.int (nI d9)), none, none, none]) ⟨rfl, rfl, rfl, rfl, rfl, rfl, rfl, trivial⟩ (zV.topK K215 ((zb_f (fun z => z (Or.inr (fun y => hc207 (zCon_0.mpr y))))).symm))
                  · refine zz_iconst (pc := 210) C (v := 1) (by decide) dL_isDone_210 ?_
                    refine zz_goto (pc := 211) C (tgt := 215) dL_isDone_211 (by decide) ?_
                    exact zV.less (L' := [some (.ref x), some (.ref b9), some (.int (nI t9)), some (.int (nI w9)), some (.int (nI k9)), some (.int (nI a9)), some (.int (nI d9)), none, none, none]) ⟨rfl, rfl, rfl, rfl, rfl, rfl, rfl, trivial⟩ (zV.topK K215 ((zb_t (show ¬ zNot σ k9 from fun z => z.elim (fun y => hc198 (by rw [y]; decide)) (fun y => y (zCon_0.mp (Classical.not_not.mp hc207))))).symm))
              · exact absurd ((nI_leI (a := 25) (b := w9) (by decide) (by omega)).mpr (by omega)) hc181
            · exact absurd ((nI_leI (a := 23) (b := w9) (by decide) (by omega)).mpr (by omega)) hc168
          · exact absurd ((nI_leI (a := 21) (b := w9) (by decide) (by omega)).mpr (by omega)) hc142
        · exact absurd ((nI_leI (a := 18) (b := w9) (by decide) (by omega)).mpr (by omega)) hc124
      · exact absurd ((nI_leI (a := 13) (b := w9) (by decide) (by omega)).mpr (by omega)) hc83
    · exact absurd ((nI_leI (a := 10) (b := w9) (by decide) (by omega)).mpr (by omega)) hc64
  · exact absurd ((nI_leI (a := 8) (b := w9) (by decide) (by omega)).mpr (by omega)) hc51
set_option maxHeartbeats 4000000 in
set_option maxRecDepth 100000 in
theorem d_reap_ne (l : Launch) (hl : l.stackTraces = false) (D : va_G) {B G : zG} {x tb ev : Nat} {A : Nat → Nat} {σ : zS} {m0 : Nat} (hC : zCl B x tb ev A σ [] 0 m0 G) (hI : zIv 0 σ []) {b9 Ln t9 w9 v9 a9 d9 k9 : Nat} {xs : Nat → Int32} (hv : v9 < 2 ^ 31) (ha : a9 < 5000) (hd : d9 < 6000) (P0 : zsMet D l yL_part wsL_part ({ frames := 1, cells := 0, slots := 0, locals := 30 } : Room) [.ref b9, .int (nI t9), .int (nI 30)] G b9 Ln xs (fun v G9 => v = some (.int (nI w9)) ∧ G9 = G) (fun _ => False)) (P1 : zsMet D l yL_part wsL_part ({ frames := 1, cells := 0, slots := 0, locals := 30 } : Room) [.ref b9, .int (nI (t9 + 1)), .int (nI 4000)] G b9 Ln xs (fun v G9 => v = some (.int (nI v9)) ∧ G9 = G) (fun _ => False)) (P2 : zsMet D l yL_part wsL_part ({ frames := 1, cells := 0, slots := 0, locals := 30 } : Room) [.ref b9, .int (nI (t9 + 2)), .int (nI 5000)] G b9 Ln xs (fun v G9 => v = some (.int (nI a9)) ∧ G9 = G) (fun _ => False)) (P3 : zsMet D l yL_part wsL_part ({ frames := 1, cells := 0, slots := 0, locals := 30 } : Room) [.ref b9, .int (nI (t9 + 3)), .int (nI 6000)] G b9 Ln xs (fun v G9 => v = some (.int (nI d9)) ∧ G9 = G) (fun _ => False)) (ek : zPid σ 40 (v9 % 40 + 1) = k9)  (h1 : 1 ≤ k9) (hk : k9 < 41) (h0 : σ 0 k9 ≠ 0) (hw : w9 = 28) (hp : a9 % 2 = 0) (hn : zNot σ k9) : zsMet D l yL_isDone wsL_isDone ({ frames := 13, cells := 20, slots := 120, locals := 420 } : Room) [.ref x, .ref b9, .int (nI t9)] G b9 Ln xs (fun v G9 => v = some (.int 1) ∧ zLq B x σ m0 G9) (fun _ => False) := by
  refine zsMet_of (cc := cL_isDone) (maxL := 10) (ret := (some .boolean)) (by decide) rfl (Nat.le_of_ble_eq_true rfl) ?_
  intro p e s m args below meth c C hnx h8 hX hbl hbA
  have hW := hI.wf
  have hTH : zE2 (¬ zHere σ (nI k9)) (zNot σ (pn (nI k9))) = 2 := zE2_2 (fun z => z (zHere_n h1 hk h0)) (by rw [pnn hk]; exact hn)
  have K215 : zV p l e ({ frames := 13, cells := 20, slots := 120, locals := 420 } : Room) s m args below meth c D (zA G s.heap.size) 0 0 (zxZ below D G (fun v G9 => v = some (.int 1) ∧ zLq B x σ m0 G9) (fun _ => False) args s ({ frames := 13, cells := 20, slots := 120, locals := 420 } : Room)) G 215 [some (.ref x), some (.ref b9), some (.int (nI t9)), some (.int (nI w9)), some (.int (nI k9)), some (.int (nI a9)), some (.int (nI d9)), none, none, none] [.int (zb (¬ zNot σ k9))] := by
    refine zz_istore (pc := 215) C dL_isDone_215 (Nat.le_of_ble_eq_true rfl) ?_
    refine zV.less (L' := [some (.ref (x)), some (.ref (b9)), some (.int (nI t9)), some (.int (nI w9)), some (.int (nI k9)), some (.int (nI a9)), some (.int (nI d9)), some (.int (zb (¬ zNot σ k9))), none, none]) ⟨rfl, rfl, rfl, rfl, rfl, rfl, rfl, rfl, trivial⟩ ?_
    refine zz_iload_n (pc := 217) C dL_isDone_217 rfl ?_
    refine zz_bipush (pc := 218) C (v := 25) (by decide) dL_isDone_218 ?_
    refine zz_icmp_ne (pc := 220) C (tgt := 369) dL_isDone_220 (by decide) (fun hc220 => ?_) (fun hc220 => ?_)
    · refine zz_iload_n (pc := 369) C dL_isDone_369 rfl ?_
      refine zz_bipush (pc := 370) C (v := 26) (by decide) dL_isDone_370 ?_
      refine zz_icmp_ne (pc := 372) C (tgt := 491) dL_isDone_372 (by decide) (fun hc372 => ?_) (fun hc372 => ?_)
      · refine zz_iload_n (pc := 491) C dL_isDone_491 rfl ?_
        refine zz_bipush (pc := 492) C (v := 27) (by decide) dL_isDone_492 ?_
        refine zz_icmp_ne (pc := 494) C (tgt := 552) dL_isDone_494 (by decide) (fun hc494 => ?_) (fun hc494 => ?_)
        · refine zz_iload_n (pc := 552) C dL_isDone_552 rfl ?_
          refine zz_bipush (pc := 553) C (v := 28) (by decide) dL_isDone_553 ?_
          refine zz_icmp_ne (pc := 555) C (tgt := 642) dL_isDone_555 (by decide) (fun hc555 => ?_) (fun hc555 => ?_)
          · exact absurd (by rw [show w9 = 28 by omega]; rfl) hc555
          · refine zz_aload_n (pc := 558) C dL_isDone_558 rfl ?_
            refine zz_iload (pc := 559) C dL_isDone_559 rfl ?_
            refine zz_iload (pc := 561) C dL_isDone_561 rfl ?_
            refine zz_iconst (pc := 563) C (v := 2) (by decide) dL_isDone_563 ?_
            refine zz_irem (pc := 564) C (a := a9) (d := 2) dL_isDone_564 rfl rfl (by omega) (by decide) (by decide) ?_
            refine zz_if_ne (pc := 565) C (tgt := 572) dL_isDone_565 (by decide) (fun hc565 => ?_) (fun hc565 => ?_)
            · exact absurd (by rw [hp]; rfl) hc565
            · refine zz_iconst (pc := 568) C (v := 1) (by decide) dL_isDone_568 ?_
              refine zz_goto (pc := 569) C (tgt := 573) dL_isDone_569 (by decide) ?_
              refine zzx_callSW (pc := 573) C h8 ((c_L_setsReaper l hl D (x9 := nI k9) (f9 := 1) hC hW (by decide)).imp (fun _ _ z => z.elim (fun y => absurd (hTH.symm.trans y.1) (by decide)) (fun z => z.elim (fun y => absurd (hTH.symm.trans y.1) (by decide)) (fun z => z))) (fun _ z => z)) gL_isDone_L_setsReaper rfl 3 (by decide +kernel) ⟨Nat.le_of_ble_eq_true rfl, Nat.le_of_ble_eq_true rfl⟩ rfl dL_isDone_573 rfl (Nat.le_of_ble_eq_true rfl) rfl ⟨Nat.le_of_ble_eq_true rfl, Nat.le_of_ble_eq_true rfl⟩ (fun E hE => hE.elim) ?_
              rintro v G9 ⟨_, rfl, rfl⟩
              refine zz_istore (pc := 576) C dL_isDone_576 (Nat.le_of_ble_eq_true rfl) ?_
              refine zV.less (L' := [some (.ref (x)), some (.ref (b9)), some (.int (nI t9)), some (.int (nI w9)), some (.int (nI k9)), some (.int (nI a9)), some (.int (nI d9)), some (.int (zb (¬ zNot σ k9))), some (.int (-10)), none]) ⟨rfl, rfl, rfl, rfl, rfl, rfl, rfl, rfl, rfl, trivial⟩ ?_
              refine zz_iload (pc := 578) C dL_isDone_578 rfl ?_
              refine zz_if_eq (pc := 580) C (tgt := 629) dL_isDone_580 (by decide) (fun hc580 => ?_) (fun hc580 => ?_)
              · refine zz_iload (pc := 629) C dL_isDone_629 rfl ?_
                refine zz_bipush (pc := 631) C (v := -10) (by decide) dL_isDone_631 ?_
                refine zz_icmp_ne (pc := 633) C (tgt := 640) dL_isDone_633 (by decide) (fun hc633 => ?_) (fun hc633 => ?_)
                · exact absurd rfl hc633
                · refine zz_iconst (pc := 636) C (v := 1) (by decide) dL_isDone_636 ?_
                  refine zz_goto (pc := 637) C (tgt := 641) dL_isDone_637 (by decide) ?_
                  exact zzx_ret (zz_ireturn (pc := 641) C dL_isDone_641 (by first | rfl | exact zb_nar) (Nat.le_of_ble_eq_true rfl) (Nat.le_of_ble_eq_true rfl) ⟨rfl, ⟨tb, ev, A, hC⟩⟩)
              · exact absurd hn (zbp hc580)
        · exact absurd ((nI_eq (a := w9) (b := 27) (by omega) (by decide)).mp (Classical.not_not.mp hc494)) (by omega)
      · exact absurd ((nI_eq (a := w9) (b := 26) (by omega) (by decide)).mp (Classical.not_not.mp hc372)) (by omega)
    · exact absurd ((nI_eq (a := w9) (b := 25) (by omega) (by decide)).mp (Classical.not_not.mp hc220)) (by omega)
  refine t_L_isDone l D hC (rm := ({ frames := 12, cells := 20, slots := 120, locals := 340 } : Room)) C h8 hX hbl hbA hW hv P0 P1 P2 P3 ?_
  rw [ek]
  refine zz_iload_n (pc := 48) C dL_isDone_48 rfl ?_
  refine zz_bipush (pc := 49) C (v := 8) (by decide) dL_isDone_49 ?_
  refine zz_icmp_ge (pc := 51) C (tgt := 61) dL_isDone_51 (by decide) (fun hc51 => ?_) (fun hc51 => ?_)
  · refine zz_iload_n (pc := 61) C dL_isDone_61 rfl ?_
    refine zz_bipush (pc := 62) C (v := 10) (by decide) dL_isDone_62 ?_
    refine zz_icmp_ge (pc := 64) C (tgt := 80) dL_isDone_64 (by decide) (fun hc64 => ?_) (fun hc64 => ?_)
    · refine zz_iload_n (pc := 80) C dL_isDone_80 rfl ?_
      refine zz_bipush (pc := 81) C (v := 13) (by decide) dL_isDone_81 ?_
      refine zz_icmp_ge (pc := 83) C (tgt := 121) dL_isDone_83 (by decide) (fun hc83 => ?_) (fun hc83 => ?_)
      · refine zz_iload_n (pc := 121) C dL_isDone_121 rfl ?_
        refine zz_bipush (pc := 122) C (v := 18) (by decide) dL_isDone_122 ?_
        refine zz_icmp_ge (pc := 124) C (tgt := 139) dL_isDone_124 (by decide) (fun hc124 => ?_) (fun hc124 => ?_)
        · refine zz_iload_n (pc := 139) C dL_isDone_139 rfl ?_
          refine zz_bipush (pc := 140) C (v := 21) (by decide) dL_isDone_140 ?_
          refine zz_icmp_ge (pc := 142) C (tgt := 165) dL_isDone_142 (by decide) (fun hc142 => ?_) (fun hc142 => ?_)
          · refine zz_iload_n (pc := 165) C dL_isDone_165 rfl ?_
            refine zz_bipush (pc := 166) C (v := 23) (by decide) dL_isDone_166 ?_
            refine zz_icmp_ge (pc := 168) C (tgt := 178) dL_isDone_168 (by decide) (fun hc168 => ?_) (fun hc168 => ?_)
            · refine zz_iload_n (pc := 178) C dL_isDone_178 rfl ?_
              refine zz_bipush (pc := 179) C (v := 25) (by decide) dL_isDone_179 ?_
              refine zz_icmp_ge (pc := 181) C (tgt := 195) dL_isDone_181 (by decide) (fun hc181 => ?_) (fun hc181 => ?_)
              · refine zz_iload (pc := 195) C dL_isDone_195 rfl ?_
                refine zz_iconst (pc := 197) C (v := 1) (by decide) dL_isDone_197 ?_
                refine zz_icmp_le (pc := 198) C (tgt := 214) dL_isDone_198 (by decide) (fun hc198 => ?_) (fun hc198 => ?_)
                · refine zz_iconst (pc := 214) C (v := 0) (by decide) dL_isDone_214 ?_
                  exact zV.less (L' := [some (.ref x), some (.ref b9), some (.int (nI t9)), some (.int (nI w9)), some (.int (nI k9)), some (.int (nI a9)), some (.int (nI d9)), none, none, none]) ⟨rfl, rfl, rfl, rfl, rfl, rfl, rfl, trivial⟩ (zV.topK K215 ((zb_f (fun z => z (Or.inl (zLe1 h1 hk hc198)))).symm))
                · refine zz_aload_n (pc := 201) C dL_isDone_201 rfl ?_
                  refine zz_iload (pc := 202) C dL_isDone_202 rfl ?_
                  refine zz_callV (pc := 204) C (q_state l D hC h1 hk h0) gL_isDone_X2_state rfl 1 (by decide +kernel) ⟨Nat.le_of_ble_eq_true rfl, Nat.le_of_ble_eq_true rfl⟩ hC.x (ci := 2) rfl rfl rfl dL_isDone_204 rfl (Nat.le_of_ble_eq_true rfl) rfl ⟨Nat.le_of_ble_eq_true rfl, Nat.le_of_ble_eq_true rfl⟩ ?_
                  rintro v G9 ⟨rfl, rfl⟩
                  refine zz_if_ne (pc := 207) C (tgt := 214) dL_isDone_207 (by decide) (fun hc207 => ?_) (fun hc207 => ?_)
                  · refine zz_iconst (pc := 214) C (v := 0) (by decide) dL_isDone_214 ?_
                    exact zV.less (L' := [some (.ref x), some (.ref b9), some (.int (nI t9)), some (.int (nI w9)), some (.int (nI k9)), some (.int (nI a9)), some (.int (nI d9)), none, none, none]) ⟨rfl, rfl, rfl, rfl, rfl, rfl, rfl, trivial⟩ (zV.topK K215 ((zb_f (fun z => z (Or.inr (fun y => hc207 (zCon_0.mpr y))))).symm))
                  · refine zz_iconst (pc := 210) C (v := 1) (by decide) dL_isDone_210 ?_
                    refine zz_goto (pc := 211) C (tgt := 215) dL_isDone_211 (by decide) ?_
                    exact zV.less (L' := [some (.ref x), some (.ref b9), some (.int (nI t9)), some (.int (nI w9)), some (.int (nI k9)), some (.int (nI a9)), some (.int (nI d9)), none, none, none]) ⟨rfl, rfl, rfl, rfl, rfl, rfl, rfl, trivial⟩ (zV.topK K215 ((zb_t (show ¬ zNot σ k9 from fun z => z.elim (fun y => hc198 (by rw [y]; decide)) (fun y => y (zCon_0.mp (Classical.not_not.mp hc207))))).symm))
              · exact absurd ((nI_leI (a := 25) (b := w9) (by decide) (by omega)).mpr (by omega)) hc181
            · exact absurd ((nI_leI (a := 23) (b := w9) (by decide) (by omega)).mpr (by omega)) hc168
          · exact absurd ((nI_leI (a := 21) (b := w9) (by decide) (by omega)).mpr (by omega)) hc142
        · exact absurd ((nI_leI (a := 18) (b := w9) (by decide) (by omega)).mpr (by omega)) hc124
      · exact absurd ((nI_leI (a := 13) (b := w9) (by decide) (by omega)).mpr (by omega)) hc83
    · exact absurd ((nI_leI (a := 10) (b := w9) (by decide) (by omega)).mpr (by omega)) hc64
  · exact absurd ((nI_leI (a := 8) (b := w9) (by decide) (by omega)).mpr (by omega)) hc51
set_option maxHeartbeats 4000000 in
set_option maxRecDepth 100000 in
theorem d_reap_ye (l : Launch) (hl : l.stackTraces = false) (D : va_G) {B G : zG} {x tb ev : Nat} {A : Nat → Nat} {σ : zS} {m0 : Nat} (hC : zCl B x tb ev A σ [] 0 m0 G) (hI : zIv 0 σ []) {b9 Ln t9 w9 v9 a9 d9 k9 : Nat} {xs : Nat → Int32} (hv : v9 < 2 ^ 31) (ha : a9 < 5000) (hd : d9 < 6000) (P0 : zsMet D l yL_part wsL_part ({ frames := 1, cells := 0, slots := 0, locals := 30 } : Room) [.ref b9, .int (nI t9), .int (nI 30)] G b9 Ln xs (fun v G9 => v = some (.int (nI w9)) ∧ G9 = G) (fun _ => False)) (P1 : zsMet D l yL_part wsL_part ({ frames := 1, cells := 0, slots := 0, locals := 30 } : Room) [.ref b9, .int (nI (t9 + 1)), .int (nI 4000)] G b9 Ln xs (fun v G9 => v = some (.int (nI v9)) ∧ G9 = G) (fun _ => False)) (P2 : zsMet D l yL_part wsL_part ({ frames := 1, cells := 0, slots := 0, locals := 30 } : Room) [.ref b9, .int (nI (t9 + 2)), .int (nI 5000)] G b9 Ln xs (fun v G9 => v = some (.int (nI a9)) ∧ G9 = G) (fun _ => False)) (P3 : zsMet D l yL_part wsL_part ({ frames := 1, cells := 0, slots := 0, locals := 30 } : Room) [.ref b9, .int (nI (t9 + 3)), .int (nI 6000)] G b9 Ln xs (fun v G9 => v = some (.int (nI d9)) ∧ G9 = G) (fun _ => False)) (ek : zPid σ 40 (v9 % 40 + 1) = k9) {τ τ2 : zS} (h1 : 1 ≤ k9) (hk : k9 < 41) (h0 : σ 0 k9 ≠ 0) (hw : w9 = 28) (hp : a9 % 2 = 0) (hn : ¬ zNot σ k9) (hτ : zu σ 13 k9 1 = τ) (hτ2 : zu τ 13 k9 1 = τ2) : zsMet D l yL_isDone wsL_isDone ({ frames := 13, cells := 20, slots := 120, locals := 420 } : Room) [.ref x, .ref b9, .int (nI t9)] G b9 Ln xs (fun v G9 => v = some (.int 1) ∧ zLq B x τ2 m0 G9) (fun _ => False) := by
  refine zsMet_of (cc := cL_isDone) (maxL := 10) (ret := (some .boolean)) (by decide) rfl (Nat.le_of_ble_eq_true rfl) ?_
  intro p e s m args below meth c C hnx h8 hX hbl hbA
  have hW := hI.wf
  have hI1 : zIv 0 τ [] := by rw [← hτ]; exact hI.p13 (zNr hn).1 (by decide)
  have q0 : τ 0 k9 ≠ 0 := by rw [← hτ]; exact h0
  have hn1 : ¬ zNot τ k9 := by rw [← hτ]; exact hn
  have q13 : τ 13 k9 = 1 := by rw [← hτ]; exact zu_self
  have hTH : zE2 (¬ zHere σ (nI k9)) (zNot σ (pn (nI k9))) = 0 := zE2_0 (fun z => z (zHere_n h1 hk h0)) (by rw [pnn hk]; exact hn)
  have hTH2 : zE2 (¬ zHere τ (nI k9)) (zNot τ (pn (nI k9))) = 0 := zE2_0 (fun z => z (zHere_n h1 hk q0)) (by rw [pnn hk]; exact hn1)
  have K215 : zV p l e ({ frames := 13, cells := 20, slots := 120, locals := 420 } : Room) s m args below meth c D (zA G s.heap.size) 0 0 (zxZ below D G (fun v G9 => v = some (.int 1) ∧ zLq B x τ2 m0 G9) (fun _ => False) args s ({ frames := 13, cells := 20, slots := 120, locals := 420 } : Room)) G 215 [some (.ref x), some (.ref b9), some (.int (nI t9)), some (.int (nI w9)), some (.int (nI k9)), some (.int (nI a9)), some (.int (nI d9)), none, none, none] [.int (zb (¬ zNot σ k9))] := by
    refine zz_istore (pc := 215) C dL_isDone_215 (Nat.le_of_ble_eq_true rfl) ?_
    refine zV.less (L' := [some (.ref (x)), some (.ref (b9)), some (.int (nI t9)), some (.int (nI w9)), some (.int (nI k9)), some (.int (nI a9)), some (.int (nI d9)), some (.int (zb (¬ zNot σ k9))), none, none]) ⟨rfl, rfl, rfl, rfl, rfl, rfl, rfl, rfl, trivial⟩ ?_
    refine zz_iload_n (pc := 217) C dL_isDone_217 rfl ?_
    refine zz_bipush (pc := 218) C (v := 25) (by decide) dL_isDone_218 ?_
    refine zz_icmp_ne (pc := 220) C (tgt := 369) dL_isDone_220 (by decide) (fun hc220 => ?_) (fun hc220 => ?_)
    · refine zz_iload_n (pc := 369) C dL_isDone_369 rfl ?_
      refine zz_bipush (pc := 370) C (v := 26) (by decide) dL_isDone_370 ?_
      refine zz_icmp_ne (pc := 372) C (tgt := 491) dL_isDone_372 (by decide) (fun hc372 => ?_) (fun hc372 => ?_)
      · refine zz_iload_n (pc := 491) C dL_isDone_491 rfl ?_
        refine zz_bipush (pc := 492) C (v := 27) (by decide) dL_isDone_492 ?_
        refine zz_icmp_ne (pc := 494) C (tgt := 552) dL_isDone_494 (by decide) (fun hc494 => ?_) (fun hc494 => ?_)
        · refine zz_iload_n (pc := 552) C dL_isDone_552 rfl ?_
          refine zz_bipush (pc := 553) C (v := 28) (by decide) dL_isDone_553 ?_
          refine zz_icmp_ne (pc := 555) C (tgt := 642) dL_isDone_555 (by decide) (fun hc555 => ?_) (fun hc555 => ?_)
          · exact absurd (by rw [show w9 = 28 by omega]; rfl) hc555
          · refine zz_aload_n (pc := 558) C dL_isDone_558 rfl ?_
            refine zz_iload (pc := 559) C dL_isDone_559 rfl ?_
            refine zz_iload (pc := 561) C dL_isDone_561 rfl ?_
            refine zz_iconst (pc := 563) C (v := 2) (by decide) dL_isDone_563 ?_
            refine zz_irem (pc := 564) C (a := a9) (d := 2) dL_isDone_564 rfl rfl (by omega) (by decide) (by decide) ?_
            refine zz_if_ne (pc := 565) C (tgt := 572) dL_isDone_565 (by decide) (fun hc565 => ?_) (fun hc565 => ?_)
            · exact absurd (by rw [hp]; rfl) hc565
            · refine zz_iconst (pc := 568) C (v := 1) (by decide) dL_isDone_568 ?_
              refine zz_goto (pc := 569) C (tgt := 573) dL_isDone_569 (by decide) ?_
              refine zzx_callSW (pc := 573) C h8 ((c_L_setsReaper l hl D (x9 := nI k9) (f9 := 1) hC hW (by decide)).imp (fun _ _ z => z.elim id (fun z => z.elim (fun y => absurd (hTH.symm.trans y.1) (by decide)) (fun z => absurd (hTH.symm.trans z.1) (by decide)))) (fun _ z => z)) gL_isDone_L_setsReaper rfl 3 (by decide +kernel) ⟨Nat.le_of_ble_eq_true rfl, Nat.le_of_ble_eq_true rfl⟩ rfl dL_isDone_573 rfl (Nat.le_of_ble_eq_true rfl) rfl ⟨Nat.le_of_ble_eq_true rfl, Nat.le_of_ble_eq_true rfl⟩ (fun E hE => hE.elim) ?_
              rintro v G9 ⟨_, rfl, hC1⟩
              rw [pnn hk]
              rw [pnn hk, hτ] at hC1
              refine zz_istore (pc := 576) C dL_isDone_576 (Nat.le_of_ble_eq_true rfl) ?_
              refine zV.less (L' := [some (.ref (x)), some (.ref (b9)), some (.int (nI t9)), some (.int (nI w9)), some (.int (nI k9)), some (.int (nI a9)), some (.int (nI d9)), some (.int (zb (¬ zNot σ k9))), some (.int ((if σ 13 k9 = 0 then (0 : Int32) else 1))), none]) ⟨rfl, rfl, rfl, rfl, rfl, rfl, rfl, rfl, rfl, trivial⟩ ?_
              refine zz_iload (pc := 578) C dL_isDone_578 rfl ?_
              refine zz_if_eq (pc := 580) C (tgt := 629) dL_isDone_580 (by decide) (fun hc580 => ?_) (fun hc580 => ?_)
              · exact False.elim (zb_eq.mp hc580 hn)
              · refine zz_aload_n (pc := 583) C dL_isDone_583 rfl ?_
                refine zz_iload (pc := 584) C dL_isDone_584 rfl ?_
                refine zz_iload (pc := 586) C dL_isDone_586 rfl ?_
                refine zz_iconst (pc := 588) C (v := 2) (by decide) dL_isDone_588 ?_
                refine zz_irem (pc := 589) C (a := a9) (d := 2) dL_isDone_589 rfl rfl (by omega) (by decide) (by decide) ?_
                refine zz_if_ne (pc := 590) C (tgt := 597) dL_isDone_590 (by decide) (fun hc590 => ?_) (fun hc590 => ?_)
                · exact absurd (by rw [hp]; rfl) hc590
                · refine zz_iconst (pc := 593) C (v := 1) (by decide) dL_isDone_593 ?_
                  refine zz_goto (pc := 594) C (tgt := 598) dL_isDone_594 (by decide) ?_
                  refine zzx_callSW (pc := 598) C h8 ((c_L_setsReaper l hl D (x9 := nI k9) (f9 := 1) hC1 hI1.wf (by decide)).imp (fun _ _ z => z.elim id (fun z => z.elim (fun y => absurd (hTH2.symm.trans y.1) (by decide)) (fun z => absurd (hTH2.symm.trans z.1) (by decide)))) (fun _ z => z)) gL_isDone_L_setsReaper rfl 3 (by decide +kernel) ⟨Nat.le_of_ble_eq_true rfl, Nat.le_of_ble_eq_true rfl⟩ rfl dL_isDone_598 rfl (Nat.le_of_ble_eq_true rfl) rfl ⟨Nat.le_of_ble_eq_true rfl, Nat.le_of_ble_eq_true rfl⟩ (fun E hE => hE.elim) ?_
                  rintro v G9 ⟨_, rfl, hC2⟩
                  rw [pnn hk, q13]
                  rw [pnn hk, hτ2] at hC2
                  refine zz_iload (pc := 601) C dL_isDone_601 rfl ?_
                  refine zz_iconst (pc := 603) C (v := 2) (by decide) dL_isDone_603 ?_
                  refine zz_irem (pc := 604) C (a := a9) (d := 2) dL_isDone_604 rfl rfl (by omega) (by decide) (by decide) ?_
                  refine zz_if_ne (pc := 605) C (tgt := 612) dL_isDone_605 (by decide) (fun hc605 => ?_) (fun hc605 => ?_)
                  · exact absurd (by rw [hp]; rfl) hc605
                  · refine zz_iconst (pc := 608) C (v := 1) (by decide) dL_isDone_608 ?_
                    refine zz_goto (pc := 609) C (tgt := 613) dL_isDone_609 (by decide) ?_
                    refine zz_icmp_ne (pc := 613) C (tgt := 625) dL_isDone_613 (by decide) (fun hc613 => ?_) (fun hc613 => ?_)
                    · exact absurd rfl hc613
                    · refine zz_iload (pc := 616) C dL_isDone_616 rfl ?_
                      refine zz_if_lt (pc := 618) C (tgt := 625) dL_isDone_618 (by decide) (fun hc618 => ?_) (fun hc618 => ?_)
                      · exact absurd hc618 (by split <;> decide)
                      · refine zz_iconst (pc := 621) C (v := 1) (by decide) dL_isDone_621 ?_
                        refine zz_goto (pc := 622) C (tgt := 641) dL_isDone_622 (by decide) ?_
                        exact zzx_ret (zz_ireturn (pc := 641) C dL_isDone_641 (by first | rfl | exact zb_nar) (Nat.le_of_ble_eq_true rfl) (Nat.le_of_ble_eq_true rfl) ⟨rfl, ⟨tb, ev, A, hC2⟩⟩)
        · exact absurd ((nI_eq (a := w9) (b := 27) (by omega) (by decide)).mp (Classical.not_not.mp hc494)) (by omega)
      · exact absurd ((nI_eq (a := w9) (b := 26) (by omega) (by decide)).mp (Classical.not_not.mp hc372)) (by omega)
    · exact absurd ((nI_eq (a := w9) (b := 25) (by omega) (by decide)).mp (Classical.not_not.mp hc220)) (by omega)
  refine t_L_isDone l D hC (rm := ({ frames := 12, cells := 20, slots := 120, locals := 340 } : Room)) C h8 hX hbl hbA hW hv P0 P1 P2 P3 ?_
  rw [ek]
  refine zz_iload_n (pc := 48) C dL_isDone_48 rfl ?_
  refine zz_bipush (pc := 49) C (v := 8) (by decide) dL_isDone_49 ?_
  refine zz_icmp_ge (pc := 51) C (tgt := 61) dL_isDone_51 (by decide) (fun hc51 => ?_) (fun hc51 => ?_)
  · refine zz_iload_n (pc := 61) C dL_isDone_61 rfl ?_
    refine zz_bipush (pc := 62) C (v := 10) (by decide) dL_isDone_62 ?_
    refine zz_icmp_ge (pc := 64) C (tgt := 80) dL_isDone_64 (by decide) (fun hc64 => ?_) (fun hc64 => ?_)
    · refine zz_iload_n (pc := 80) C dL_isDone_80 rfl ?_
      refine zz_bipush (pc := 81) C (v := 13) (by decide) dL_isDone_81 ?_
      refine zz_icmp_ge (pc := 83) C (tgt := 121) dL_isDone_83 (by decide) (fun hc83 => ?_) (fun hc83 => ?_)
      · refine zz_iload_n (pc := 121) C dL_isDone_121 rfl ?_
        refine zz_bipush (pc := 122) C (v := 18) (by decide) dL_isDone_122 ?_
        refine zz_icmp_ge (pc := 124) C (tgt := 139) dL_isDone_124 (by decide) (fun hc124 => ?_) (fun hc124 => ?_)
        · refine zz_iload_n (pc := 139) C dL_isDone_139 rfl ?_
          refine zz_bipush (pc := 140) C (v := 21) (by decide) dL_isDone_140 ?_
          refine zz_icmp_ge (pc := 142) C (tgt := 165) dL_isDone_142 (by decide) (fun hc142 => ?_) (fun hc142 => ?_)
          · refine zz_iload_n (pc := 165) C dL_isDone_165 rfl ?_
            refine zz_bipush (pc := 166) C (v := 23) (by decide) dL_isDone_166 ?_
            refine zz_icmp_ge (pc := 168) C (tgt := 178) dL_isDone_168 (by decide) (fun hc168 => ?_) (fun hc168 => ?_)
            · refine zz_iload_n (pc := 178) C dL_isDone_178 rfl ?_
              refine zz_bipush (pc := 179) C (v := 25) (by decide) dL_isDone_179 ?_
              refine zz_icmp_ge (pc := 181) C (tgt := 195) dL_isDone_181 (by decide) (fun hc181 => ?_) (fun hc181 => ?_)
              · refine zz_iload (pc := 195) C dL_isDone_195 rfl ?_
                refine zz_iconst (pc := 197) C (v := 1) (by decide) dL_isDone_197 ?_
                refine zz_icmp_le (pc := 198) C (tgt := 214) dL_isDone_198 (by decide) (fun hc198 => ?_) (fun hc198 => ?_)
                · refine zz_iconst (pc := 214) C (v := 0) (by decide) dL_isDone_214 ?_
                  exact zV.less (L' := [some (.ref x), some (.ref b9), some (.int (nI t9)), some (.int (nI w9)), some (.int (nI k9)), some (.int (nI a9)), some (.int (nI d9)), none, none, none]) ⟨rfl, rfl, rfl, rfl, rfl, rfl, rfl, trivial⟩ (zV.topK K215 ((zb_f (fun z => z (Or.inl (zLe1 h1 hk hc198)))).symm))
                · refine zz_aload_n (pc := 201) C dL_isDone_201 rfl ?_
                  refine zz_iload (pc := 202) C dL_isDone_202 rfl ?_
                  refine zz_callV (pc := 204) C (q_state l D hC h1 hk h0) gL_isDone_X2_state rfl 1 (by decide +kernel) ⟨Nat.le_of_ble_eq_true rfl, Nat.le_of_ble_eq_true rfl⟩ hC.x (ci := 2) rfl rfl rfl dL_isDone_204 rfl (Nat.le_of_ble_eq_true rfl) rfl ⟨Nat.le_of_ble_eq_true rfl, Nat.le_of_ble_eq_true rfl⟩ ?_
                  rintro v G9 ⟨rfl, rfl⟩
                  refine zz_if_ne (pc := 207) C (tgt := 214) dL_isDone_207 (by decide) (fun hc207 => ?_) (fun hc207 => ?_)
                  · refine zz_iconst (pc := 214) C (v := 0) (by decide) dL_isDone_214 ?_
                    exact zV.less (L' := [some (.ref x), some (.ref b9), some (.int (nI t9)), some (.int (nI w9)), some (.int (nI k9)), some (.int (nI a9)), some (.int (nI d9)), none, none, none]) ⟨rfl, rfl, rfl, rfl, rfl, rfl, rfl, trivial⟩ (zV.topK K215 ((zb_f (fun z => z (Or.inr (fun y => hc207 (zCon_0.mpr y))))).symm))
                  · refine zz_iconst (pc := 210) C (v := 1) (by decide) dL_isDone_210 ?_
                    refine zz_goto (pc := 211) C (tgt := 215) dL_isDone_211 (by decide) ?_
                    exact zV.less (L' := [some (.ref x), some (.ref b9), some (.int (nI t9)), some (.int (nI w9)), some (.int (nI k9)), some (.int (nI a9)), some (.int (nI d9)), none, none, none]) ⟨rfl, rfl, rfl, rfl, rfl, rfl, rfl, trivial⟩ (zV.topK K215 ((zb_t (show ¬ zNot σ k9 from fun z => z.elim (fun y => hc198 (by rw [y]; decide)) (fun y => y (zCon_0.mp (Classical.not_not.mp hc207))))).symm))
              · exact absurd ((nI_leI (a := 25) (b := w9) (by decide) (by omega)).mpr (by omega)) hc181
            · exact absurd ((nI_leI (a := 23) (b := w9) (by decide) (by omega)).mpr (by omega)) hc168
          · exact absurd ((nI_leI (a := 21) (b := w9) (by decide) (by omega)).mpr (by omega)) hc142
        · exact absurd ((nI_leI (a := 18) (b := w9) (by decide) (by omega)).mpr (by omega)) hc124
      · exact absurd ((nI_leI (a := 13) (b := w9) (by decide) (by omega)).mpr (by omega)) hc83
    · exact absurd ((nI_leI (a := 10) (b := w9) (by decide) (by omega)).mpr (by omega)) hc64
  · exact absurd ((nI_leI (a := 8) (b := w9) (by decide) (by omega)).mpr (by omega)) hc51
set_option maxHeartbeats 4000000 in
set_option maxRecDepth 100000 in
theorem d_reap_no (l : Launch) (hl : l.stackTraces = false) (D : va_G) {B G : zG} {x tb ev : Nat} {A : Nat → Nat} {σ : zS} {m0 : Nat} (hC : zCl B x tb ev A σ [] 0 m0 G) (hI : zIv 0 σ []) {b9 Ln t9 w9 v9 a9 d9 k9 : Nat} {xs : Nat → Int32} (hv : v9 < 2 ^ 31) (ha : a9 < 5000) (hd : d9 < 6000) (P0 : zsMet D l yL_part wsL_part ({ frames := 1, cells := 0, slots := 0, locals := 30 } : Room) [.ref b9, .int (nI t9), .int (nI 30)] G b9 Ln xs (fun v G9 => v = some (.int (nI w9)) ∧ G9 = G) (fun _ => False)) (P1 : zsMet D l yL_part wsL_part ({ frames := 1, cells := 0, slots := 0, locals := 30 } : Room) [.ref b9, .int (nI (t9 + 1)), .int (nI 4000)] G b9 Ln xs (fun v G9 => v = some (.int (nI v9)) ∧ G9 = G) (fun _ => False)) (P2 : zsMet D l yL_part wsL_part ({ frames := 1, cells := 0, slots := 0, locals := 30 } : Room) [.ref b9, .int (nI (t9 + 2)), .int (nI 5000)] G b9 Ln xs (fun v G9 => v = some (.int (nI a9)) ∧ G9 = G) (fun _ => False)) (P3 : zsMet D l yL_part wsL_part ({ frames := 1, cells := 0, slots := 0, locals := 30 } : Room) [.ref b9, .int (nI (t9 + 3)), .int (nI 6000)] G b9 Ln xs (fun v G9 => v = some (.int (nI d9)) ∧ G9 = G) (fun _ => False)) (ek : zPid σ 40 (v9 % 40 + 1) = k9)  (h1 : 1 ≤ k9) (hk : k9 < 41) (h0 : σ 0 k9 ≠ 0) (hw : w9 = 28) (hp : a9 % 2 = 1) (hn : zNot σ k9) : zsMet D l yL_isDone wsL_isDone ({ frames := 13, cells := 20, slots := 120, locals := 420 } : Room) [.ref x, .ref b9, .int (nI t9)] G b9 Ln xs (fun v G9 => v = some (.int 1) ∧ zLq B x σ m0 G9) (fun _ => False) := by
  refine zsMet_of (cc := cL_isDone) (maxL := 10) (ret := (some .boolean)) (by decide) rfl (Nat.le_of_ble_eq_true rfl) ?_
  intro p e s m args below meth c C hnx h8 hX hbl hbA
  have hW := hI.wf
  have hTH : zE2 (¬ zHere σ (nI k9)) (zNot σ (pn (nI k9))) = 2 := zE2_2 (fun z => z (zHere_n h1 hk h0)) (by rw [pnn hk]; exact hn)
  have K215 : zV p l e ({ frames := 13, cells := 20, slots := 120, locals := 420 } : Room) s m args below meth c D (zA G s.heap.size) 0 0 (zxZ below D G (fun v G9 => v = some (.int 1) ∧ zLq B x σ m0 G9) (fun _ => False) args s ({ frames := 13, cells := 20, slots := 120, locals := 420 } : Room)) G 215 [some (.ref x), some (.ref b9), some (.int (nI t9)), some (.int (nI w9)), some (.int (nI k9)), some (.int (nI a9)), some (.int (nI d9)), none, none, none] [.int (zb (¬ zNot σ k9))] := by
    refine zz_istore (pc := 215) C dL_isDone_215 (Nat.le_of_ble_eq_true rfl) ?_
    refine zV.less (L' := [some (.ref (x)), some (.ref (b9)), some (.int (nI t9)), some (.int (nI w9)), some (.int (nI k9)), some (.int (nI a9)), some (.int (nI d9)), some (.int (zb (¬ zNot σ k9))), none, none]) ⟨rfl, rfl, rfl, rfl, rfl, rfl, rfl, rfl, trivial⟩ ?_
    refine zz_iload_n (pc := 217) C dL_isDone_217 rfl ?_
    refine zz_bipush (pc := 218) C (v := 25) (by decide) dL_isDone_218 ?_
    refine zz_icmp_ne (pc := 220) C (tgt := 369) dL_isDone_220 (by decide) (fun hc220 => ?_) (fun hc220 => ?_)
    · refine zz_iload_n (pc := 369) C dL_isDone_369 rfl ?_
      refine zz_bipush (pc := 370) C (v := 26) (by decide) dL_isDone_370 ?_
      refine zz_icmp_ne (pc := 372) C (tgt := 491) dL_isDone_372 (by decide) (fun hc372 => ?_) (fun hc372 => ?_)
      · refine zz_iload_n (pc := 491) C dL_isDone_491 rfl ?_
        refine zz_bipush (pc := 492) C (v := 27) (by decide) dL_isDone_492 ?_
        refine zz_icmp_ne (pc := 494) C (tgt := 552) dL_isDone_494 (by decide) (fun hc494 => ?_) (fun hc494 => ?_)
        · refine zz_iload_n (pc := 552) C dL_isDone_552 rfl ?_
          refine zz_bipush (pc := 553) C (v := 28) (by decide) dL_isDone_553 ?_
          refine zz_icmp_ne (pc := 555) C (tgt := 642) dL_isDone_555 (by decide) (fun hc555 => ?_) (fun hc555 => ?_)
          · exact absurd (by rw [show w9 = 28 by omega]; rfl) hc555
          · refine zz_aload_n (pc := 558) C dL_isDone_558 rfl ?_
            refine zz_iload (pc := 559) C dL_isDone_559 rfl ?_
            refine zz_iload (pc := 561) C dL_isDone_561 rfl ?_
            refine zz_iconst (pc := 563) C (v := 2) (by decide) dL_isDone_563 ?_
            refine zz_irem (pc := 564) C (a := a9) (d := 2) dL_isDone_564 rfl rfl (by omega) (by decide) (by decide) ?_
            refine zz_if_ne (pc := 565) C (tgt := 572) dL_isDone_565 (by decide) (fun hc565 => ?_) (fun hc565 => ?_)
            · refine zz_iconst (pc := 572) C (v := 0) (by decide) dL_isDone_572 ?_
              refine zzx_callSW (pc := 573) C h8 ((c_L_setsReaper l hl D (x9 := nI k9) (f9 := 0) hC hW (by decide)).imp (fun _ _ z => z.elim (fun y => absurd (hTH.symm.trans y.1) (by decide)) (fun z => z.elim (fun y => absurd (hTH.symm.trans y.1) (by decide)) (fun z => z))) (fun _ z => z)) gL_isDone_L_setsReaper rfl 3 (by decide +kernel) ⟨Nat.le_of_ble_eq_true rfl, Nat.le_of_ble_eq_true rfl⟩ rfl dL_isDone_573 rfl (Nat.le_of_ble_eq_true rfl) rfl ⟨Nat.le_of_ble_eq_true rfl, Nat.le_of_ble_eq_true rfl⟩ (fun E hE => hE.elim) ?_
              rintro v G9 ⟨_, rfl, rfl⟩
              refine zz_istore (pc := 576) C dL_isDone_576 (Nat.le_of_ble_eq_true rfl) ?_
              refine zV.less (L' := [some (.ref (x)), some (.ref (b9)), some (.int (nI t9)), some (.int (nI w9)), some (.int (nI k9)), some (.int (nI a9)), some (.int (nI d9)), some (.int (zb (¬ zNot σ k9))), some (.int (-10)), none]) ⟨rfl, rfl, rfl, rfl, rfl, rfl, rfl, rfl, rfl, trivial⟩ ?_
              refine zz_iload (pc := 578) C dL_isDone_578 rfl ?_
              refine zz_if_eq (pc := 580) C (tgt := 629) dL_isDone_580 (by decide) (fun hc580 => ?_) (fun hc580 => ?_)
              · refine zz_iload (pc := 629) C dL_isDone_629 rfl ?_
                refine zz_bipush (pc := 631) C (v := -10) (by decide) dL_isDone_631 ?_
                refine zz_icmp_ne (pc := 633) C (tgt := 640) dL_isDone_633 (by decide) (fun hc633 => ?_) (fun hc633 => ?_)
                · exact absurd rfl hc633
                · refine zz_iconst (pc := 636) C (v := 1) (by decide) dL_isDone_636 ?_
                  refine zz_goto (pc := 637) C (tgt := 641) dL_isDone_637 (by decide) ?_
                  exact zzx_ret (zz_ireturn (pc := 641) C dL_isDone_641 (by first | rfl | exact zb_nar) (Nat.le_of_ble_eq_true rfl) (Nat.le_of_ble_eq_true rfl) ⟨rfl, ⟨tb, ev, A, hC⟩⟩)
              · exact absurd hn (zbp hc580)
            · exact absurd (Classical.not_not.mp hc565) (by rw [hp]; decide)
        · exact absurd ((nI_eq (a := w9) (b := 27) (by omega) (by decide)).mp (Classical.not_not.mp hc494)) (by omega)
      · exact absurd ((nI_eq (a := w9) (b := 26) (by omega) (by decide)).mp (Classical.not_not.mp hc372)) (by omega)
    · exact absurd ((nI_eq (a := w9) (b := 25) (by omega) (by decide)).mp (Classical.not_not.mp hc220)) (by omega)
  refine t_L_isDone l D hC (rm := ({ frames := 12, cells := 20, slots := 120, locals := 340 } : Room)) C h8 hX hbl hbA hW hv P0 P1 P2 P3 ?_
  rw [ek]
  refine zz_iload_n (pc := 48) C dL_isDone_48 rfl ?_
  refine zz_bipush (pc := 49) C (v := 8) (by decide) dL_isDone_49 ?_
  refine zz_icmp_ge (pc := 51) C (tgt := 61) dL_isDone_51 (by decide) (fun hc51 => ?_) (fun hc51 => ?_)
  · refine zz_iload_n (pc := 61) C dL_isDone_61 rfl ?_
    refine zz_bipush (pc := 62) C (v := 10) (by decide) dL_isDone_62 ?_
    refine zz_icmp_ge (pc := 64) C (tgt := 80) dL_isDone_64 (by decide) (fun hc64 => ?_) (fun hc64 => ?_)
    · refine zz_iload_n (pc := 80) C dL_isDone_80 rfl ?_
      refine zz_bipush (pc := 81) C (v := 13) (by decide) dL_isDone_81 ?_
      refine zz_icmp_ge (pc := 83) C (tgt := 121) dL_isDone_83 (by decide) (fun hc83 => ?_) (fun hc83 => ?_)
      · refine zz_iload_n (pc := 121) C dL_isDone_121 rfl ?_
        refine zz_bipush (pc := 122) C (v := 18) (by decide) dL_isDone_122 ?_
        refine zz_icmp_ge (pc := 124) C (tgt := 139) dL_isDone_124 (by decide) (fun hc124 => ?_) (fun hc124 => ?_)
        · refine zz_iload_n (pc := 139) C dL_isDone_139 rfl ?_
          refine zz_bipush (pc := 140) C (v := 21) (by decide) dL_isDone_140 ?_
          refine zz_icmp_ge (pc := 142) C (tgt := 165) dL_isDone_142 (by decide) (fun hc142 => ?_) (fun hc142 => ?_)
          · refine zz_iload_n (pc := 165) C dL_isDone_165 rfl ?_
            refine zz_bipush (pc := 166) C (v := 23) (by decide) dL_isDone_166 ?_
            refine zz_icmp_ge (pc := 168) C (tgt := 178) dL_isDone_168 (by decide) (fun hc168 => ?_) (fun hc168 => ?_)
            · refine zz_iload_n (pc := 178) C dL_isDone_178 rfl ?_
              refine zz_bipush (pc := 179) C (v := 25) (by decide) dL_isDone_179 ?_
              refine zz_icmp_ge (pc := 181) C (tgt := 195) dL_isDone_181 (by decide) (fun hc181 => ?_) (fun hc181 => ?_)
              · refine zz_iload (pc := 195) C dL_isDone_195 rfl ?_
                refine zz_iconst (pc := 197) C (v := 1) (by decide) dL_isDone_197 ?_
                refine zz_icmp_le (pc := 198) C (tgt := 214) dL_isDone_198 (by decide) (fun hc198 => ?_) (fun hc198 => ?_)
                · refine zz_iconst (pc := 214) C (v := 0) (by decide) dL_isDone_214 ?_
                  exact zV.less (L' := [some (.ref x), some (.ref b9), some (.int (nI t9)), some (.int (nI w9)), some (.int (nI k9)), some (.int (nI a9)), some (.int (nI d9)), none, none, none]) ⟨rfl, rfl, rfl, rfl, rfl, rfl, rfl, trivial⟩ (zV.topK K215 ((zb_f (fun z => z (Or.inl (zLe1 h1 hk hc198)))).symm))
                · refine zz_aload_n (pc := 201) C dL_isDone_201 rfl ?_
                  refine zz_iload (pc := 202) C dL_isDone_202 rfl ?_
                  refine zz_callV (pc := 204) C (q_state l D hC h1 hk h0) gL_isDone_X2_state rfl 1 (by decide +kernel) ⟨Nat.le_of_ble_eq_true rfl, Nat.le_of_ble_eq_true rfl⟩ hC.x (ci := 2) rfl rfl rfl dL_isDone_204 rfl (Nat.le_of_ble_eq_true rfl) rfl ⟨Nat.le_of_ble_eq_true rfl, Nat.le_of_ble_eq_true rfl⟩ ?_
                  rintro v G9 ⟨rfl, rfl⟩
                  refine zz_if_ne (pc := 207) C (tgt := 214) dL_isDone_207 (by decide) (fun hc207 => ?_) (fun hc207 => ?_)
                  · refine zz_iconst (pc := 214) C (v := 0) (by decide) dL_isDone_214 ?_
                    exact zV.less (L' := [some (.ref x), some (.ref b9), some (.int (nI t9)), some (.int (nI w9)), some (.int (nI k9)), some (.int (nI a9)), some (.int (nI d9)), none, none, none]) ⟨rfl, rfl, rfl, rfl, rfl, rfl, rfl, trivial⟩ (zV.topK K215 ((zb_f (fun z => z (Or.inr (fun y => hc207 (zCon_0.mpr y))))).symm))
                  · refine zz_iconst (pc := 210) C (v := 1) (by decide) dL_isDone_210 ?_
                    refine zz_goto (pc := 211) C (tgt := 215) dL_isDone_211 (by decide) ?_
                    exact zV.less (L' := [some (.ref x), some (.ref b9), some (.int (nI t9)), some (.int (nI w9)), some (.int (nI k9)), some (.int (nI a9)), some (.int (nI d9)), none, none, none]) ⟨rfl, rfl, rfl, rfl, rfl, rfl, rfl, trivial⟩ (zV.topK K215 ((zb_t (show ¬ zNot σ k9 from fun z => z.elim (fun y => hc198 (by rw [y]; decide)) (fun y => y (zCon_0.mp (Classical.not_not.mp hc207))))).symm))
              · exact absurd ((nI_leI (a := 25) (b := w9) (by decide) (by omega)).mpr (by omega)) hc181
            · exact absurd ((nI_leI (a := 23) (b := w9) (by decide) (by omega)).mpr (by omega)) hc168
          · exact absurd ((nI_leI (a := 21) (b := w9) (by decide) (by omega)).mpr (by omega)) hc142
        · exact absurd ((nI_leI (a := 18) (b := w9) (by decide) (by omega)).mpr (by omega)) hc124
      · exact absurd ((nI_leI (a := 13) (b := w9) (by decide) (by omega)).mpr (by omega)) hc83
    · exact absurd ((nI_leI (a := 10) (b := w9) (by decide) (by omega)).mpr (by omega)) hc64
  · exact absurd ((nI_leI (a := 8) (b := w9) (by decide) (by omega)).mpr (by omega)) hc51
set_option maxHeartbeats 4000000 in
set_option maxRecDepth 100000 in
theorem d_reap_yo (l : Launch) (hl : l.stackTraces = false) (D : va_G) {B G : zG} {x tb ev : Nat} {A : Nat → Nat} {σ : zS} {m0 : Nat} (hC : zCl B x tb ev A σ [] 0 m0 G) (hI : zIv 0 σ []) {b9 Ln t9 w9 v9 a9 d9 k9 : Nat} {xs : Nat → Int32} (hv : v9 < 2 ^ 31) (ha : a9 < 5000) (hd : d9 < 6000) (P0 : zsMet D l yL_part wsL_part ({ frames := 1, cells := 0, slots := 0, locals := 30 } : Room) [.ref b9, .int (nI t9), .int (nI 30)] G b9 Ln xs (fun v G9 => v = some (.int (nI w9)) ∧ G9 = G) (fun _ => False)) (P1 : zsMet D l yL_part wsL_part ({ frames := 1, cells := 0, slots := 0, locals := 30 } : Room) [.ref b9, .int (nI (t9 + 1)), .int (nI 4000)] G b9 Ln xs (fun v G9 => v = some (.int (nI v9)) ∧ G9 = G) (fun _ => False)) (P2 : zsMet D l yL_part wsL_part ({ frames := 1, cells := 0, slots := 0, locals := 30 } : Room) [.ref b9, .int (nI (t9 + 2)), .int (nI 5000)] G b9 Ln xs (fun v G9 => v = some (.int (nI a9)) ∧ G9 = G) (fun _ => False)) (P3 : zsMet D l yL_part wsL_part ({ frames := 1, cells := 0, slots := 0, locals := 30 } : Room) [.ref b9, .int (nI (t9 + 3)), .int (nI 6000)] G b9 Ln xs (fun v G9 => v = some (.int (nI d9)) ∧ G9 = G) (fun _ => False)) (ek : zPid σ 40 (v9 % 40 + 1) = k9) {τ τ2 : zS} (h1 : 1 ≤ k9) (hk : k9 < 41) (h0 : σ 0 k9 ≠ 0) (hw : w9 = 28) (hp : a9 % 2 = 1) (hn : ¬ zNot σ k9) (hτ : zu σ 13 k9 0 = τ) (hτ2 : zu τ 13 k9 0 = τ2) : zsMet D l yL_isDone wsL_isDone ({ frames := 13, cells := 20, slots := 120, locals := 420 } : Room) [.ref x, .ref b9, .int (nI t9)] G b9 Ln xs (fun v G9 => v = some (.int 1) ∧ zLq B x τ2 m0 G9) (fun _ => False) := by
  refine zsMet_of (cc := cL_isDone) (maxL := 10) (ret := (some .boolean)) (by decide) rfl (Nat.le_of_ble_eq_true rfl) ?_
  intro p e s m args below meth c C hnx h8 hX hbl hbA
  have hW := hI.wf
  have hI1 : zIv 0 τ [] := by rw [← hτ]; exact hI.p13 (zNr hn).1 (by decide)
  have q0 : τ 0 k9 ≠ 0 := by rw [← hτ]; exact h0
  have hn1 : ¬ zNot τ k9 := by rw [← hτ]; exact hn
  have q13 : τ 13 k9 = 0 := by rw [← hτ]; exact zu_self
  have hTH : zE2 (¬ zHere σ (nI k9)) (zNot σ (pn (nI k9))) = 0 := zE2_0 (fun z => z (zHere_n h1 hk h0)) (by rw [pnn hk]; exact hn)
  have hTH2 : zE2 (¬ zHere τ (nI k9)) (zNot τ (pn (nI k9))) = 0 := zE2_0 (fun z => z (zHere_n h1 hk q0)) (by rw [pnn hk]; exact hn1)
  have K215 : zV p l e ({ frames := 13, cells := 20, slots := 120, locals := 420 } : Room) s m args below meth c D (zA G s.heap.size) 0 0 (zxZ below D G (fun v G9 => v = some (.int 1) ∧ zLq B x τ2 m0 G9) (fun _ => False) args s ({ frames := 13, cells := 20, slots := 120, locals := 420 } : Room)) G 215 [some (.ref x), some (.ref b9), some (.int (nI t9)), some (.int (nI w9)), some (.int (nI k9)), some (.int (nI a9)), some (.int (nI d9)), none, none, none] [.int (zb (¬ zNot σ k9))] := by
    refine zz_istore (pc := 215) C dL_isDone_215 (Nat.le_of_ble_eq_true rfl) ?_
    refine zV.less (L' := [some (.ref (x)), some (.ref (b9)), some (.int (nI t9)), some (.int (nI w9)), some (.int (nI k9)), some (.int (nI a9)), some (.int (nI d9)), some (.int (zb (¬ zNot σ k9))), none, none]) ⟨rfl, rfl, rfl, rfl, rfl, rfl, rfl, rfl, trivial⟩ ?_
    refine zz_iload_n (pc := 217) C dL_isDone_217 rfl ?_
    refine zz_bipush (pc := 218) C (v := 25) (by decide) dL_isDone_218 ?_
    refine zz_icmp_ne (pc := 220) C (tgt := 369) dL_isDone_220 (by decide) (fun hc220 => ?_) (fun hc220 => ?_)
    · refine zz_iload_n (pc := 369) C dL_isDone_369 rfl ?_
      refine zz_bipush (pc := 370) C (v := 26) (by decide) dL_isDone_370 ?_
      refine zz_icmp_ne (pc := 372) C (tgt := 491) dL_isDone_372 (by decide) (fun hc372 => ?_) (fun hc372 => ?_)
      · refine zz_iload_n (pc := 491) C dL_isDone_491 rfl ?_
        refine zz_bipush (pc := 492) C (v := 27) (by decide) dL_isDone_492 ?_
        refine zz_icmp_ne (pc := 494) C (tgt := 552) dL_isDone_494 (by decide) (fun hc494 => ?_) (fun hc494 => ?_)
        · refine zz_iload_n (pc := 552) C dL_isDone_552 rfl ?_
          refine zz_bipush (pc := 553) C (v := 28) (by decide) dL_isDone_553 ?_
          refine zz_icmp_ne (pc := 555) C (tgt := 642) dL_isDone_555 (by decide) (fun hc555 => ?_) (fun hc555 => ?_)
          · exact absurd (by rw [show w9 = 28 by omega]; rfl) hc555
          · refine zz_aload_n (pc := 558) C dL_isDone_558 rfl ?_
            refine zz_iload (pc := 559) C dL_isDone_559 rfl ?_
            refine zz_iload (pc := 561) C dL_isDone_561 rfl ?_
            refine zz_iconst (pc := 563) C (v := 2) (by decide) dL_isDone_563 ?_
            refine zz_irem (pc := 564) C (a := a9) (d := 2) dL_isDone_564 rfl rfl (by omega) (by decide) (by decide) ?_
            refine zz_if_ne (pc := 565) C (tgt := 572) dL_isDone_565 (by decide) (fun hc565 => ?_) (fun hc565 => ?_)
            · refine zz_iconst (pc := 572) C (v := 0) (by decide) dL_isDone_572 ?_
              refine zzx_callSW (pc := 573) C h8 ((c_L_setsReaper l hl D (x9 := nI k9) (f9 := 0) hC hW (by decide)).imp (fun _ _ z => z.elim id (fun z => z.elim (fun y => absurd (hTH.symm.trans y.1) (by decide)) (fun z => absurd (hTH.symm.trans z.1) (by decide)))) (fun _ z => z)) gL_isDone_L_setsReaper rfl 3 (by decide +kernel) ⟨Nat.le_of_ble_eq_true rfl, Nat.le_of_ble_eq_true rfl⟩ rfl dL_isDone_573 rfl (Nat.le_of_ble_eq_true rfl) rfl ⟨Nat.le_of_ble_eq_true rfl, Nat.le_of_ble_eq_true rfl⟩ (fun E hE => hE.elim) ?_
              rintro v G9 ⟨_, rfl, hC1⟩
              rw [pnn hk]
              rw [pnn hk, hτ] at hC1
              refine zz_istore (pc := 576) C dL_isDone_576 (Nat.le_of_ble_eq_true rfl) ?_
              refine zV.less (L' := [some (.ref (x)), some (.ref (b9)), some (.int (nI t9)), some (.int (nI w9)), some (.int (nI k9)), some (.int (nI a9)), some (.int (nI d9)), some (.int (zb (¬ zNot σ k9))), some (.int ((if σ 13 k9 = 0 then (0 : Int32) else 1))), none]) ⟨rfl, rfl, rfl, rfl, rfl, rfl, rfl, rfl, rfl, trivial⟩ ?_
              refine zz_iload (pc := 578) C dL_isDone_578 rfl ?_
              refine zz_if_eq (pc := 580) C (tgt := 629) dL_isDone_580 (by decide) (fun hc580 => ?_) (fun hc580 => ?_)
              · exact False.elim (zb_eq.mp hc580 hn)
              · refine zz_aload_n (pc := 583) C dL_isDone_583 rfl ?_
                refine zz_iload (pc := 584) C dL_isDone_584 rfl ?_
                refine zz_iload (pc := 586) C dL_isDone_586 rfl ?_
                refine zz_iconst (pc := 588) C (v := 2) (by decide) dL_isDone_588 ?_
                refine zz_irem (pc := 589) C (a := a9) (d := 2) dL_isDone_589 rfl rfl (by omega) (by decide) (by decide) ?_
                refine zz_if_ne (pc := 590) C (tgt := 597) dL_isDone_590 (by decide) (fun hc590 => ?_) (fun hc590 => ?_)
                · refine zz_iconst (pc := 597) C (v := 0) (by decide) dL_isDone_597 ?_
                  refine zzx_callSW (pc := 598) C h8 ((c_L_setsReaper l hl D (x9 := nI k9) (f9 := 0) hC1 hI1.wf (by decide)).imp (fun _ _ z => z.elim id (fun z => z.elim (fun y => absurd (hTH2.symm.trans y.1) (by decide)) (fun z => absurd (hTH2.symm.trans z.1) (by decide)))) (fun _ z => z)) gL_isDone_L_setsReaper rfl 3 (by decide +kernel) ⟨Nat.le_of_ble_eq_true rfl, Nat.le_of_ble_eq_true rfl⟩ rfl dL_isDone_598 rfl (Nat.le_of_ble_eq_true rfl) rfl ⟨Nat.le_of_ble_eq_true rfl, Nat.le_of_ble_eq_true rfl⟩ (fun E hE => hE.elim) ?_
                  rintro v G9 ⟨_, rfl, hC2⟩
                  rw [pnn hk, q13]
                  rw [pnn hk, hτ2] at hC2
                  refine zz_iload (pc := 601) C dL_isDone_601 rfl ?_
                  refine zz_iconst (pc := 603) C (v := 2) (by decide) dL_isDone_603 ?_
                  refine zz_irem (pc := 604) C (a := a9) (d := 2) dL_isDone_604 rfl rfl (by omega) (by decide) (by decide) ?_
                  refine zz_if_ne (pc := 605) C (tgt := 612) dL_isDone_605 (by decide) (fun hc605 => ?_) (fun hc605 => ?_)
                  · refine zz_iconst (pc := 612) C (v := 0) (by decide) dL_isDone_612 ?_
                    refine zz_icmp_ne (pc := 613) C (tgt := 625) dL_isDone_613 (by decide) (fun hc613 => ?_) (fun hc613 => ?_)
                    · exact absurd rfl hc613
                    · refine zz_iload (pc := 616) C dL_isDone_616 rfl ?_
                      refine zz_if_lt (pc := 618) C (tgt := 625) dL_isDone_618 (by decide) (fun hc618 => ?_) (fun hc618 => ?_)
                      · exact absurd hc618 (by split <;> decide)
                      · refine zz_iconst (pc := 621) C (v := 1) (by decide) dL_isDone_621 ?_
                        refine zz_goto (pc := 622) C (tgt := 641) dL_isDone_622 (by decide) ?_
                        exact zzx_ret (zz_ireturn (pc := 641) C dL_isDone_641 (by first | rfl | exact zb_nar) (Nat.le_of_ble_eq_true rfl) (Nat.le_of_ble_eq_true rfl) ⟨rfl, ⟨tb, ev, A, hC2⟩⟩)
                  · exact absurd (Classical.not_not.mp hc605) (by rw [hp]; decide)
                · exact absurd (Classical.not_not.mp hc590) (by rw [hp]; decide)
            · exact absurd (Classical.not_not.mp hc565) (by rw [hp]; decide)
        · exact absurd ((nI_eq (a := w9) (b := 27) (by omega) (by decide)).mp (Classical.not_not.mp hc494)) (by omega)
      · exact absurd ((nI_eq (a := w9) (b := 26) (by omega) (by decide)).mp (Classical.not_not.mp hc372)) (by omega)
    · exact absurd ((nI_eq (a := w9) (b := 25) (by omega) (by decide)).mp (Classical.not_not.mp hc220)) (by omega)
  refine t_L_isDone l D hC (rm := ({ frames := 12, cells := 20, slots := 120, locals := 340 } : Room)) C h8 hX hbl hbA hW hv P0 P1 P2 P3 ?_
  rw [ek]
  refine zz_iload_n (pc := 48) C dL_isDone_48 rfl ?_
  refine zz_bipush (pc := 49) C (v := 8) (by decide) dL_isDone_49 ?_
  refine zz_icmp_ge (pc := 51) C (tgt := 61) dL_isDone_51 (by decide) (fun hc51 => ?_) (fun hc51 => ?_)
  · refine zz_iload_n (pc := 61) C dL_isDone_61 rfl ?_
    refine zz_bipush (pc := 62) C (v := 10) (by decide) dL_isDone_62 ?_
    refine zz_icmp_ge (pc := 64) C (tgt := 80) dL_isDone_64 (by decide) (fun hc64 => ?_) (fun hc64 => ?_)
    · refine zz_iload_n (pc := 80) C dL_isDone_80 rfl ?_
      refine zz_bipush (pc := 81) C (v := 13) (by decide) dL_isDone_81 ?_
      refine zz_icmp_ge (pc := 83) C (tgt := 121) dL_isDone_83 (by decide) (fun hc83 => ?_) (fun hc83 => ?_)
      · refine zz_iload_n (pc := 121) C dL_isDone_121 rfl ?_
        refine zz_bipush (pc := 122) C (v := 18) (by decide) dL_isDone_122 ?_
        refine zz_icmp_ge (pc := 124) C (tgt := 139) dL_isDone_124 (by decide) (fun hc124 => ?_) (fun hc124 => ?_)
        · refine zz_iload_n (pc := 139) C dL_isDone_139 rfl ?_
          refine zz_bipush (pc := 140) C (v := 21) (by decide) dL_isDone_140 ?_
          refine zz_icmp_ge (pc := 142) C (tgt := 165) dL_isDone_142 (by decide) (fun hc142 => ?_) (fun hc142 => ?_)
          · refine zz_iload_n (pc := 165) C dL_isDone_165 rfl ?_
            refine zz_bipush (pc := 166) C (v := 23) (by decide) dL_isDone_166 ?_
            refine zz_icmp_ge (pc := 168) C (tgt := 178) dL_isDone_168 (by decide) (fun hc168 => ?_) (fun hc168 => ?_)
            · refine zz_iload_n (pc := 178) C dL_isDone_178 rfl ?_
              refine zz_bipush (pc := 179) C (v := 25) (by decide) dL_isDone_179 ?_
              refine zz_icmp_ge (pc := 181) C (tgt := 195) dL_isDone_181 (by decide) (fun hc181 => ?_) (fun hc181 => ?_)
              · refine zz_iload (pc := 195) C dL_isDone_195 rfl ?_
                refine zz_iconst (pc := 197) C (v := 1) (by decide) dL_isDone_197 ?_
                refine zz_icmp_le (pc := 198) C (tgt := 214) dL_isDone_198 (by decide) (fun hc198 => ?_) (fun hc198 => ?_)
                · refine zz_iconst (pc := 214) C (v := 0) (by decide) dL_isDone_214 ?_
                  exact zV.less (L' := [some (.ref x), some (.ref b9), some (.int (nI t9)), some (.int (nI w9)), some (.int (nI k9)), some (.int (nI a9)), some (.int (nI d9)), none, none, none]) ⟨rfl, rfl, rfl, rfl, rfl, rfl, rfl, trivial⟩ (zV.topK K215 ((zb_f (fun z => z (Or.inl (zLe1 h1 hk hc198)))).symm))
                · refine zz_aload_n (pc := 201) C dL_isDone_201 rfl ?_
                  refine zz_iload (pc := 202) C dL_isDone_202 rfl ?_
                  refine zz_callV (pc := 204) C (q_state l D hC h1 hk h0) gL_isDone_X2_state rfl 1 (by decide +kernel) ⟨Nat.le_of_ble_eq_true rfl, Nat.le_of_ble_eq_true rfl⟩ hC.x (ci := 2) rfl rfl rfl dL_isDone_204 rfl (Nat.le_of_ble_eq_true rfl) rfl ⟨Nat.le_of_ble_eq_true rfl, Nat.le_of_ble_eq_true rfl⟩ ?_
                  rintro v G9 ⟨rfl, rfl⟩
                  refine zz_if_ne (pc := 207) C (tgt := 214) dL_isDone_207 (by decide) (fun hc207 => ?_) (fun hc207 => ?_)
                  · refine zz_iconst (pc := 214) C (v := 0) (by decide) dL_isDone_214 ?_
                    exact zV.less (L' := [some (.ref x), some (.ref b9), some (.int (nI t9)), some (.int (nI w9)), some (.int (nI k9)), some (.int (nI a9)), some (.int (nI d9)), none, none, none]) ⟨rfl, rfl, rfl, rfl, rfl, rfl, rfl, trivial⟩ (zV.topK K215 ((zb_f (fun z => z (Or.inr (fun y => hc207 (zCon_0.mpr y))))).symm))
                  · refine zz_iconst (pc := 210) C (v := 1) (by decide) dL_isDone_210 ?_
                    refine zz_goto (pc := 211) C (tgt := 215) dL_isDone_211 (by decide) ?_
                    exact zV.less (L' := [some (.ref x), some (.ref b9), some (.int (nI t9)), some (.int (nI w9)), some (.int (nI k9)), some (.int (nI a9)), some (.int (nI d9)), none, none, none]) ⟨rfl, rfl, rfl, rfl, rfl, rfl, rfl, trivial⟩ (zV.topK K215 ((zb_t (show ¬ zNot σ k9 from fun z => z.elim (fun y => hc198 (by rw [y]; decide)) (fun y => y (zCon_0.mp (Classical.not_not.mp hc207))))).symm))
              · exact absurd ((nI_leI (a := 25) (b := w9) (by decide) (by omega)).mpr (by omega)) hc181
            · exact absurd ((nI_leI (a := 23) (b := w9) (by decide) (by omega)).mpr (by omega)) hc168
          · exact absurd ((nI_leI (a := 21) (b := w9) (by decide) (by omega)).mpr (by omega)) hc142
        · exact absurd ((nI_leI (a := 18) (b := w9) (by decide) (by omega)).mpr (by omega)) hc124
      · exact absurd ((nI_leI (a := 13) (b := w9) (by decide) (by omega)).mpr (by omega)) hc83
    · exact absurd ((nI_leI (a := 10) (b := w9) (by decide) (by omega)).mpr (by omega)) hc64
  · exact absurd ((nI_leI (a := 8) (b := w9) (by decide) (by omega)).mpr (by omega)) hc51
set_option maxHeartbeats 4000000 in
set_option maxRecDepth 100000 in
theorem d_kill (l : Launch) (hl : l.stackTraces = false) (D : va_G) {B G : zG} {x tb ev : Nat} {A : Nat → Nat} {σ : zS} {m0 : Nat} (hC : zCl B x tb ev A σ [] 0 m0 G) (hI : zIv 0 σ []) {b9 Ln t9 w9 v9 a9 d9 k9 : Nat} {xs : Nat → Int32} (hv : v9 < 2 ^ 31) (ha : a9 < 5000) (hd : d9 < 6000) (P0 : zsMet D l yL_part wsL_part ({ frames := 1, cells := 0, slots := 0, locals := 30 } : Room) [.ref b9, .int (nI t9), .int (nI 30)] G b9 Ln xs (fun v G9 => v = some (.int (nI w9)) ∧ G9 = G) (fun _ => False)) (P1 : zsMet D l yL_part wsL_part ({ frames := 1, cells := 0, slots := 0, locals := 30 } : Room) [.ref b9, .int (nI (t9 + 1)), .int (nI 4000)] G b9 Ln xs (fun v G9 => v = some (.int (nI v9)) ∧ G9 = G) (fun _ => False)) (P2 : zsMet D l yL_part wsL_part ({ frames := 1, cells := 0, slots := 0, locals := 30 } : Room) [.ref b9, .int (nI (t9 + 2)), .int (nI 5000)] G b9 Ln xs (fun v G9 => v = some (.int (nI a9)) ∧ G9 = G) (fun _ => False)) (P3 : zsMet D l yL_part wsL_part ({ frames := 1, cells := 0, slots := 0, locals := 30 } : Room) [.ref b9, .int (nI (t9 + 3)), .int (nI 6000)] G b9 Ln xs (fun v G9 => v = some (.int (nI d9)) ∧ G9 = G) (fun _ => False)) (ek : zPid σ 40 (v9 % 40 + 1) = k9) {X : zS × List zEv} {g9 : Nat} (h1 : 1 ≤ k9) (hk : k9 < 41) (h0 : σ 0 k9 ≠ 0) (hw : w9 = 29) (hXe : X = (σ, zSends σ (nI g9) (d9 % 9) 41)) (hr : zReady 8300 X) (hg9 : g9 = 1 + a9 % 40) : zsMet D l yL_isDone wsL_isDone (zRmX 13 420 m0 (zCount 8300 X.1 X.2) 20) [.ref x, .ref b9, .int (nI t9)] G b9 Ln xs (fun v G9 => v = some (.int 1) ∧ zLq B x (zFin 8300 X) (max m0 (zCount 8300 X.1 X.2)) G9) (fun _ => False) := by
  refine zsMet_of (cc := cL_isDone) (maxL := 10) (ret := (some .boolean)) (by decide) rfl (Nat.le_of_ble_eq_true rfl) ?_
  intro p e s m args below meth c C hnx h8 hX hbl hbA
  have hW := hI.wf
  have hrc := zRx_r (m := m0) (T := zCount 8300 X.1 X.2) (f := 13) (l := 420)
  have eg : (1 : Int32) + nI (a9 % 40) = nI g9 := by rw [hg9]; exact (Int32.add_comm _ _).trans ((z1a _).trans (by rw [Nat.add_comm]))
  have hs9 : d9 % 9 < 9 := Nat.mod_lt _ (by decide)
  have hTH : zE1 (nI g9 < 1 ∨ (40 : Int32) < nI g9 ∨ nI (d9 % 9) < 0 ∨ ¬ nI (d9 % 9) < 9) = 0 := zE1_0 (fun z => z.elim (fun y => zNum_n (k := g9) (by omega) (by omega) (Or.inl y)) (fun z => z.elim (fun y => zNum_n (k := g9) (by omega) (by omega) (Or.inr y)) (z9n hs9)))
  have K215 : zV p l e (zRmX 13 420 m0 (zCount 8300 X.1 X.2) 20) s m args below meth c D (zA G s.heap.size) 0 0 (zxZ below D G (fun v G9 => v = some (.int 1) ∧ zLq B x (zFin 8300 X) (max m0 (zCount 8300 X.1 X.2)) G9) (fun _ => False) args s (zRmX 13 420 m0 (zCount 8300 X.1 X.2) 20)) G 215 [some (.ref x), some (.ref b9), some (.int (nI t9)), some (.int (nI w9)), some (.int (nI k9)), some (.int (nI a9)), some (.int (nI d9)), none, none, none] [.int (zb (¬ zNot σ k9))] := by
    refine zz_istore (pc := 215) C dL_isDone_215 (Nat.le_of_ble_eq_true rfl) ?_
    refine zV.less (L' := [some (.ref (x)), some (.ref (b9)), some (.int (nI t9)), some (.int (nI w9)), some (.int (nI k9)), some (.int (nI a9)), some (.int (nI d9)), some (.int (zb (¬ zNot σ k9))), none, none]) ⟨rfl, rfl, rfl, rfl, rfl, rfl, rfl, rfl, trivial⟩ ?_
    refine zz_iload_n (pc := 217) C dL_isDone_217 rfl ?_
    refine zz_bipush (pc := 218) C (v := 25) (by decide) dL_isDone_218 ?_
    refine zz_icmp_ne (pc := 220) C (tgt := 369) dL_isDone_220 (by decide) (fun hc220 => ?_) (fun hc220 => ?_)
    · refine zz_iload_n (pc := 369) C dL_isDone_369 rfl ?_
      refine zz_bipush (pc := 370) C (v := 26) (by decide) dL_isDone_370 ?_
      refine zz_icmp_ne (pc := 372) C (tgt := 491) dL_isDone_372 (by decide) (fun hc372 => ?_) (fun hc372 => ?_)
      · refine zz_iload_n (pc := 491) C dL_isDone_491 rfl ?_
        refine zz_bipush (pc := 492) C (v := 27) (by decide) dL_isDone_492 ?_
        refine zz_icmp_ne (pc := 494) C (tgt := 552) dL_isDone_494 (by decide) (fun hc494 => ?_) (fun hc494 => ?_)
        · refine zz_iload_n (pc := 552) C dL_isDone_552 rfl ?_
          refine zz_bipush (pc := 553) C (v := 28) (by decide) dL_isDone_553 ?_
          refine zz_icmp_ne (pc := 555) C (tgt := 642) dL_isDone_555 (by decide) (fun hc555 => ?_) (fun hc555 => ?_)
          · refine zz_aload_n (pc := 642) C dL_isDone_642 rfl ?_
            refine zz_iconst (pc := 643) C (v := 1) (by decide) dL_isDone_643 ?_
            refine zz_iload (pc := 644) C dL_isDone_644 rfl ?_
            refine zz_bipush (pc := 646) C (v := 40) (by decide) dL_isDone_646 ?_
            refine zz_irem (pc := 648) C (a := a9) (d := 40) dL_isDone_648 rfl rfl (by omega) (by decide) (by decide) ?_
            refine zz_iadd (pc := 649) C dL_isDone_649 ?_
            refine zV.top eg ?_
            refine zz_callS (pc := 650) C (c_L_members l D hC hW) gL_isDone_L_members rfl 2 (by decide +kernel) ⟨Nat.le_of_ble_eq_true rfl, Nat.le_of_ble_eq_true rfl⟩ rfl dL_isDone_650 rfl (Nat.le_of_ble_eq_true rfl) rfl (zRx_0 (Nat.le_of_ble_eq_true rfl) (Nat.le_of_ble_eq_true rfl)) ?_
            rintro v G9 ⟨rfl, rfl⟩
            refine zz_istore (pc := 653) C dL_isDone_653 (Nat.le_of_ble_eq_true rfl) ?_
            refine zV.less (L' := [some (.ref (x)), some (.ref (b9)), some (.int (nI t9)), some (.int (nI w9)), some (.int (nI k9)), some (.int (nI a9)), some (.int (nI d9)), some (.int (zb (¬ zNot σ k9))), some (.int (nI (zMemL σ (nI g9) 41).length)), none]) ⟨rfl, rfl, rfl, rfl, rfl, rfl, rfl, rfl, rfl, trivial⟩ ?_
            refine zz_aload_n (pc := 655) C dL_isDone_655 rfl ?_
            refine zz_iconst (pc := 656) C (v := 1) (by decide) dL_isDone_656 ?_
            refine zz_iload (pc := 657) C dL_isDone_657 rfl ?_
            refine zz_bipush (pc := 659) C (v := 40) (by decide) dL_isDone_659 ?_
            refine zz_irem (pc := 661) C (a := a9) (d := 40) dL_isDone_661 rfl rfl (by omega) (by decide) (by decide) ?_
            refine zz_iadd (pc := 662) C dL_isDone_662 ?_
            refine zV.top eg ?_
            refine zz_iload (pc := 663) C dL_isDone_663 rfl ?_
            refine zz_bipush (pc := 665) C (v := 9) (by decide) dL_isDone_665 ?_
            refine zz_irem (pc := 667) C (a := d9) (d := 9) dL_isDone_667 rfl rfl (by omega) (by decide) (by decide) ?_
            refine zzx_callV (pc := 668) C h8 (c_X2_sendToGroup l hl D (g9 := nI g9) (s9 := nI (d9 % 9)) (X := X) (N := 8300) hC (by rw [show pn (nI (d9 % 9)) = d9 % 9 from nI_clamp (by omega)]; exact hXe) (fun _ => hr)) gL_isDone_X2_sendToGroup rfl 2 (by decide +kernel) ⟨Nat.le_of_ble_eq_true rfl, Nat.le_of_ble_eq_true rfl⟩ hC.x (ci := 2) rfl rfl rfl dL_isDone_668 rfl (Nat.le_of_ble_eq_true rfl) rfl (zRx_c (k := 2) (by decide)) (fun E hE => absurd (hTH.symm.trans hE.1) (by decide)) ?_
            rintro v G9 ⟨_, rfl, hC1⟩
            refine zV.widen (k := 5 + zW m0 (zCount 8300 X.1 X.2)) (n := 60 + 4 * zW m0 (zCount 8300 X.1 X.2)) (zRx_w5 (k := 2) (by decide)).1 (zRx_w5 (k := 2) (by decide)).2 ?_
            refine zz_iload (pc := 671) C dL_isDone_671 rfl ?_
            refine zz_icmp_ne (pc := 673) C (tgt := 680) dL_isDone_673 (by decide) (fun hc673 => ?_) (fun hc673 => ?_)
            · exact absurd rfl hc673
            · refine zz_iconst (pc := 676) C (v := 1) (by decide) dL_isDone_676 ?_
              refine zz_goto (pc := 677) C (tgt := 681) dL_isDone_677 (by decide) ?_
              exact zzx_ret (zz_ireturn (pc := 681) C dL_isDone_681 (by first | rfl | exact zb_nar) hrc.1 hrc.2 ⟨rfl, ⟨tb, ev, A, hC1⟩⟩)
          · exact absurd ((nI_eq (a := w9) (b := 28) (by omega) (by decide)).mp (Classical.not_not.mp hc555)) (by omega)
        · exact absurd ((nI_eq (a := w9) (b := 27) (by omega) (by decide)).mp (Classical.not_not.mp hc494)) (by omega)
      · exact absurd ((nI_eq (a := w9) (b := 26) (by omega) (by decide)).mp (Classical.not_not.mp hc372)) (by omega)
    · exact absurd ((nI_eq (a := w9) (b := 25) (by omega) (by decide)).mp (Classical.not_not.mp hc220)) (by omega)
  refine t_L_isDone l D hC (rm := (zRmX 12 340 m0 (zCount 8300 X.1 X.2) 20)) C h8 hX hbl hbA hW hv P0 P1 P2 P3 ?_
  rw [ek]
  refine zz_iload_n (pc := 48) C dL_isDone_48 rfl ?_
  refine zz_bipush (pc := 49) C (v := 8) (by decide) dL_isDone_49 ?_
  refine zz_icmp_ge (pc := 51) C (tgt := 61) dL_isDone_51 (by decide) (fun hc51 => ?_) (fun hc51 => ?_)
  · refine zz_iload_n (pc := 61) C dL_isDone_61 rfl ?_
    refine zz_bipush (pc := 62) C (v := 10) (by decide) dL_isDone_62 ?_
    refine zz_icmp_ge (pc := 64) C (tgt := 80) dL_isDone_64 (by decide) (fun hc64 => ?_) (fun hc64 => ?_)
    · refine zz_iload_n (pc := 80) C dL_isDone_80 rfl ?_
      refine zz_bipush (pc := 81) C (v := 13) (by decide) dL_isDone_81 ?_
      refine zz_icmp_ge (pc := 83) C (tgt := 121) dL_isDone_83 (by decide) (fun hc83 => ?_) (fun hc83 => ?_)
      · refine zz_iload_n (pc := 121) C dL_isDone_121 rfl ?_
        refine zz_bipush (pc := 122) C (v := 18) (by decide) dL_isDone_122 ?_
        refine zz_icmp_ge (pc := 124) C (tgt := 139) dL_isDone_124 (by decide) (fun hc124 => ?_) (fun hc124 => ?_)
        · refine zz_iload_n (pc := 139) C dL_isDone_139 rfl ?_
          refine zz_bipush (pc := 140) C (v := 21) (by decide) dL_isDone_140 ?_
          refine zz_icmp_ge (pc := 142) C (tgt := 165) dL_isDone_142 (by decide) (fun hc142 => ?_) (fun hc142 => ?_)
          · refine zz_iload_n (pc := 165) C dL_isDone_165 rfl ?_
            refine zz_bipush (pc := 166) C (v := 23) (by decide) dL_isDone_166 ?_
            refine zz_icmp_ge (pc := 168) C (tgt := 178) dL_isDone_168 (by decide) (fun hc168 => ?_) (fun hc168 => ?_)
            · refine zz_iload_n (pc := 178) C dL_isDone_178 rfl ?_
              refine zz_bipush (pc := 179) C (v := 25) (by decide) dL_isDone_179 ?_
              refine zz_icmp_ge (pc := 181) C (tgt := 195) dL_isDone_181 (by decide) (fun hc181 => ?_) (fun hc181 => ?_)
              · refine zz_iload (pc := 195) C dL_isDone_195 rfl ?_
                refine zz_iconst (pc := 197) C (v := 1) (by decide) dL_isDone_197 ?_
                refine zz_icmp_le (pc := 198) C (tgt := 214) dL_isDone_198 (by decide) (fun hc198 => ?_) (fun hc198 => ?_)
                · refine zz_iconst (pc := 214) C (v := 0) (by decide) dL_isDone_214 ?_
                  exact zV.less (L' := [some (.ref x), some (.ref b9), some (.int (nI t9)), some (.int (nI w9)), some (.int (nI k9)), some (.int (nI a9)), some (.int (nI d9)), none, none, none]) ⟨rfl, rfl, rfl, rfl, rfl, rfl, rfl, trivial⟩ (zV.topK K215 ((zb_f (fun z => z (Or.inl (zLe1 h1 hk hc198)))).symm))
                · refine zz_aload_n (pc := 201) C dL_isDone_201 rfl ?_
                  refine zz_iload (pc := 202) C dL_isDone_202 rfl ?_
                  refine zz_callV (pc := 204) C (q_state l D hC h1 hk h0) gL_isDone_X2_state rfl 1 (by decide +kernel) ⟨Nat.le_of_ble_eq_true rfl, Nat.le_of_ble_eq_true rfl⟩ hC.x (ci := 2) rfl rfl rfl dL_isDone_204 rfl (Nat.le_of_ble_eq_true rfl) rfl (zRx_0 (Nat.le_of_ble_eq_true rfl) (Nat.le_of_ble_eq_true rfl)) ?_
                  rintro v G9 ⟨rfl, rfl⟩
                  refine zz_if_ne (pc := 207) C (tgt := 214) dL_isDone_207 (by decide) (fun hc207 => ?_) (fun hc207 => ?_)
                  · refine zz_iconst (pc := 214) C (v := 0) (by decide) dL_isDone_214 ?_
                    exact zV.less (L' := [some (.ref x), some (.ref b9), some (.int (nI t9)), some (.int (nI w9)), some (.int (nI k9)), some (.int (nI a9)), some (.int (nI d9)), none, none, none]) ⟨rfl, rfl, rfl, rfl, rfl, rfl, rfl, trivial⟩ (zV.topK K215 ((zb_f (fun z => z (Or.inr (fun y => hc207 (zCon_0.mpr y))))).symm))
                  · refine zz_iconst (pc := 210) C (v := 1) (by decide) dL_isDone_210 ?_
                    refine zz_goto (pc := 211) C (tgt := 215) dL_isDone_211 (by decide) ?_
                    exact zV.less (L' := [some (.ref x), some (.ref b9), some (.int (nI t9)), some (.int (nI w9)), some (.int (nI k9)), some (.int (nI a9)), some (.int (nI d9)), none, none, none]) ⟨rfl, rfl, rfl, rfl, rfl, rfl, rfl, trivial⟩ (zV.topK K215 ((zb_t (show ¬ zNot σ k9 from fun z => z.elim (fun y => hc198 (by rw [y]; decide)) (fun y => y (zCon_0.mp (Classical.not_not.mp hc207))))).symm))
              · exact absurd ((nI_leI (a := 25) (b := w9) (by decide) (by omega)).mpr (by omega)) hc181
            · exact absurd ((nI_leI (a := 23) (b := w9) (by decide) (by omega)).mpr (by omega)) hc168
          · exact absurd ((nI_leI (a := 21) (b := w9) (by decide) (by omega)).mpr (by omega)) hc142
        · exact absurd ((nI_leI (a := 18) (b := w9) (by decide) (by omega)).mpr (by omega)) hc124
      · exact absurd ((nI_leI (a := 13) (b := w9) (by decide) (by omega)).mpr (by omega)) hc83
    · exact absurd ((nI_leI (a := 10) (b := w9) (by decide) (by omega)).mpr (by omega)) hc64
  · exact absurd ((nI_leI (a := 8) (b := w9) (by decide) (by omega)).mpr (by omega)) hc51
