set_option maxHeartbeats 4000000 in
set_option maxRecDepth 100000 in
theorem c_L_isTerminal_fa (l : Launch) (hl : l.stackTraces = false) (D : va_G) {B G : zG} {x tb ev : Nat} {A : Nat → Nat} {σ : zS} {m0 : Nat} (hC : zCl B x tb ev A σ [] 0 m0 G) {k9 a9 b9 g9 : Nat} (hI : zIv 0 σ []) (h1 : 1 ≤ k9) (hk : k9 < 41) (h0 : σ 0 k9 ≠ 0) (ha : a9 < 5000) (hb : b9 < 6000) (hm : a9 % 4 = 2) (hg9 : g9 = 1 + b9 % 41) (hg : g9 = 41) : zxMet D l yL_isTerminal wsL_isTerminal ({ frames := 12, cells := 20, slots := 120, locals := 340 } : Room) [.ref x, .int (nI k9), .int (nI a9), .int (nI b9)] G (fun v G9 => v = some (.int 1) ∧ zLq B x σ m0 G9) (fun _ => False) := by
  refine zxMet_of (cc := cL_isTerminal) (maxL := 10) (ret := (some .boolean)) (by decide) rfl (Nat.le_of_ble_eq_true rfl) ?_
  intro p e s m args below meth c C hnx h8
  have hW := hI.wf
  have eg : (1 : Int32) + nI (b9 % 41) = nI g9 := by rw [hg9]; exact (Int32.add_comm _ _).trans ((z1a _).trans (by rw [Nat.add_comm]))
  have g1 : 1 ≤ g9 := by omega
  have hg41 : g9 < 2 ^ 31 := by omega
  have hs : ¬ (g9 < 41 ∧ zIsIn σ (nI g9) (σ 3 k9) 1) := fun z => z.2 (fun k hk1 y => y.1.1 (by rw [show k = 0 by omega]; exact hW.z))
  have hTH : zE3 (¬ zHere σ (nI k9)) (nI g9 < 1 ∨ (40 : Int32) < nI g9) (zNot σ (pn (nI k9)) ∨ σ 3 (pn (nI k9)) ≠ σ 21 0 ∨ ¬ zIsIn σ (nI g9) (σ 3 (pn (nI k9))) 41) = 2 := zE3_2 (fun z => z (zHere_n h1 hk h0)) (Or.inr (by rw [hg]; exact z41))
  have K229 : zV p l e ({ frames := 12, cells := 20, slots := 120, locals := 340 } : Room) s m args below meth c D (zA G s.heap.size) 0 0 (zxZ below D G (fun v G9 => v = some (.int 1) ∧ zLq B x σ m0 G9) (fun _ => False) args s ({ frames := 12, cells := 20, slots := 120, locals := 340 } : Room)) G 229 [some (.ref x), some (.int (nI k9)), some (.int (nI a9)), some (.int (nI b9)), some (.int (zb (¬ zNot σ k9))), some (.int (σ 21 0)), some (.int (σ 22 0)), some (.int (nI g9)), some (.int (zb (g9 < 41 ∧ zIsIn σ (nI g9) (σ 3 k9) 41))), none] [.int (zb (¬ zNot σ k9 ∧ σ 3 k9 = σ 21 0 ∧ g9 < 41 ∧ zIsIn σ (nI g9) (σ 3 k9) 41))] := by
    refine zz_istore (pc := 229) C dL_isTerminal_229 (Nat.le_of_ble_eq_true rfl) ?_
    refine zV.less (L' := [some (.ref (x)), some (.int (nI k9)), some (.int (nI a9)), some (.int (nI b9)), some (.int (zb (¬ zNot σ k9))), some (.int (σ 21 0)), some (.int (σ 22 0)), some (.int (nI g9)), some (.int (zb (g9 < 41 ∧ zIsIn σ (nI g9) (σ 3 k9) 41))), some (.int (zb (¬ zNot σ k9 ∧ σ 3 k9 = σ 21 0 ∧ g9 < 41 ∧ zIsIn σ (nI g9) (σ 3 k9) 41)))]) ⟨rfl, rfl, rfl, rfl, rfl, rfl, rfl, rfl, rfl, rfl, trivial⟩ ?_
    refine zz_aload_n (pc := 231) C dL_isTerminal_231 rfl ?_
    refine zz_iload_n (pc := 232) C dL_isTerminal_232 rfl ?_
    refine zz_iload (pc := 233) C dL_isTerminal_233 rfl ?_
    refine zzx_callSW (pc := 235) C h8 ((c_L_setsForeground l hl D (x9 := nI k9) (g9 := nI g9) hC).imp (fun _ _ z => z.elim (fun y => absurd (hTH.symm.trans y.1) (by decide)) (fun z => z.elim (fun y => absurd (hTH.symm.trans y.1) (by decide)) (fun z => z.elim id (fun z => absurd (hTH.symm.trans z.1) (by decide))))) (fun _ z => z)) gL_isTerminal_L_setsForeground rfl 3 (by decide +kernel) ⟨Nat.le_of_ble_eq_true rfl, Nat.le_of_ble_eq_true rfl⟩ rfl dL_isTerminal_235 rfl (Nat.le_of_ble_eq_true rfl) rfl ⟨Nat.le_of_ble_eq_true rfl, Nat.le_of_ble_eq_true rfl⟩ (fun E hE => hE.elim) ?_
    rintro v G9 ⟨_, rfl, rfl⟩
    refine zz_iload (pc := 238) C dL_isTerminal_238 rfl ?_
    refine zz_bipush (pc := 240) C (v := 40) (by decide) dL_isTerminal_240 ?_
    refine zz_icmp_le (pc := 242) C (tgt := 250) dL_isTerminal_242 (by decide) (fun hc242 => ?_) (fun hc242 => ?_)
    · exact absurd hc242 (by rw [hg]; decide)
    · refine zz_bipush (pc := 245) C (v := -20) (by decide) dL_isTerminal_245 ?_
      refine zz_goto (pc := 247) C (tgt := 262) dL_isTerminal_247 (by decide) ?_
      refine zz_icmp_ne (pc := 262) C (tgt := 288) dL_isTerminal_262 (by decide) (fun hc262 => ?_) (fun hc262 => ?_)
      · exact absurd rfl hc262
      · refine zz_aload_n (pc := 265) C dL_isTerminal_265 rfl ?_
        refine zz_callV (pc := 266) C (c_X2_foreground l D hC) gL_isTerminal_X2_foreground rfl 0 (by decide +kernel) ⟨Nat.le_of_ble_eq_true rfl, Nat.le_of_ble_eq_true rfl⟩ hC.x (ci := 2) rfl rfl rfl dL_isTerminal_266 rfl (Nat.le_of_ble_eq_true rfl) rfl ⟨Nat.le_of_ble_eq_true rfl, Nat.le_of_ble_eq_true rfl⟩ ?_
        rintro v G9 ⟨rfl, rfl⟩
        refine zz_iload (pc := 269) C dL_isTerminal_269 rfl ?_
        refine zz_if_eq (pc := 271) C (tgt := 279) dL_isTerminal_271 (by decide) (fun hc271 => ?_) (fun hc271 => ?_)
        · refine zz_iload (pc := 279) C dL_isTerminal_279 rfl ?_
          refine zz_icmp_ne (pc := 281) C (tgt := 288) dL_isTerminal_281 (by decide) (fun hc281 => ?_) (fun hc281 => ?_)
          · exact absurd rfl hc281
          · refine zz_iconst (pc := 284) C (v := 1) (by decide) dL_isTerminal_284 ?_
            refine zz_goto (pc := 285) C (tgt := 289) dL_isTerminal_285 (by decide) ?_
            exact zzx_ret (zz_ireturn (pc := 289) C dL_isTerminal_289 (by first | rfl | exact zb_nar) (Nat.le_of_ble_eq_true rfl) (Nat.le_of_ble_eq_true rfl) ⟨rfl, ⟨tb, ev, A, hC⟩⟩)
        · exact absurd (zbp hc271).2.2.1 (by omega)
  have loop : ∀ (n i : Nat), i + n = 41 → 1 ≤ i → zV p l e ({ frames := 12, cells := 20, slots := 120, locals := 340 } : Room) s m args below meth c D (zA G s.heap.size) 0 0 (zxZ below D G (fun v G9 => v = some (.int 1) ∧ zLq B x σ m0 G9) (fun _ => False) args s ({ frames := 12, cells := 20, slots := 120, locals := 340 } : Room)) G 147 [some (.ref x), some (.int (nI k9)), some (.int (nI a9)), some (.int (nI b9)), some (.int (zb (¬ zNot σ k9))), some (.int (σ 21 0)), some (.int (σ 22 0)), some (.int (nI g9)), some (.int (zb (g9 < 41 ∧ zIsIn σ (nI g9) (σ 3 k9) i))), some (.int (nI (i)))] [] := by
    intro n
    induction n with
    | zero =>
      intro i hi hi1
      have hi41 : i = 41 := by omega
      subst hi41
      refine zz_iload (pc := 147) C dL_isTerminal_147 rfl ?_
      refine zz_bipush (pc := 149) C (v := 41) (by decide) dL_isTerminal_149 ?_
      refine zz_icmp_ge (pc := 151) C (tgt := 204) dL_isTerminal_151 (by decide) (fun hc151 => ?_) (fun hc151 => ?_)
      · refine zz_iload (pc := 204) C dL_isTerminal_204 rfl ?_
        refine zz_if_eq (pc := 206) C (tgt := 228) dL_isTerminal_206 (by decide) (fun hc206 => ?_) (fun hc206 => ?_)
        · refine zz_iconst (pc := 228) C (v := 0) (by decide) dL_isTerminal_228 ?_
          exact zV.less (L' := [some (.ref x), some (.int (nI k9)), some (.int (nI a9)), some (.int (nI b9)), some (.int (zb (¬ zNot σ k9))), some (.int (σ 21 0)), some (.int (σ 22 0)), some (.int (nI g9)), some (.int (zb (g9 < 41 ∧ zIsIn σ (nI g9) (σ 3 k9) 41))), none]) ⟨rfl, rfl, rfl, rfl, rfl, rfl, rfl, rfl, rfl, trivial⟩ (zV.topK K229 ((zb_f (fun z => zb_eq.mp hc206 z.1)).symm))
        · refine zz_aload_n (pc := 209) C dL_isTerminal_209 rfl ?_
          refine zz_iload_n (pc := 210) C dL_isTerminal_210 rfl ?_
          refine zz_callV (pc := 211) C (q_session l D hC h1 hk h0) gL_isTerminal_X2_session rfl 1 (by decide +kernel) ⟨Nat.le_of_ble_eq_true rfl, Nat.le_of_ble_eq_true rfl⟩ hC.x (ci := 2) rfl rfl rfl dL_isTerminal_211 rfl (Nat.le_of_ble_eq_true rfl) rfl ⟨Nat.le_of_ble_eq_true rfl, Nat.le_of_ble_eq_true rfl⟩ ?_
          rintro v G9 ⟨rfl, rfl⟩
          refine zz_iload (pc := 214) C dL_isTerminal_214 rfl ?_
          refine zz_icmp_ne (pc := 216) C (tgt := 228) dL_isTerminal_216 (by decide) (fun hc216 => ?_) (fun hc216 => ?_)
          · refine zz_iconst (pc := 228) C (v := 0) (by decide) dL_isTerminal_228 ?_
            exact zV.less (L' := [some (.ref x), some (.int (nI k9)), some (.int (nI a9)), some (.int (nI b9)), some (.int (zb (¬ zNot σ k9))), some (.int (σ 21 0)), some (.int (σ 22 0)), some (.int (nI g9)), some (.int (zb (g9 < 41 ∧ zIsIn σ (nI g9) (σ 3 k9) 41))), none]) ⟨rfl, rfl, rfl, rfl, rfl, rfl, rfl, rfl, rfl, trivial⟩ (zV.topK K229 ((zb_f (fun z => hc216 z.2.1)).symm))
          · refine zz_iload (pc := 219) C dL_isTerminal_219 rfl ?_
            refine zz_if_eq (pc := 221) C (tgt := 228) dL_isTerminal_221 (by decide) (fun hc221 => ?_) (fun hc221 => ?_)
            · refine zz_iconst (pc := 228) C (v := 0) (by decide) dL_isTerminal_228 ?_
              exact zV.less (L' := [some (.ref x), some (.int (nI k9)), some (.int (nI a9)), some (.int (nI b9)), some (.int (zb (¬ zNot σ k9))), some (.int (σ 21 0)), some (.int (σ 22 0)), some (.int (nI g9)), some (.int (zb (g9 < 41 ∧ zIsIn σ (nI g9) (σ 3 k9) 41))), none]) ⟨rfl, rfl, rfl, rfl, rfl, rfl, rfl, rfl, rfl, trivial⟩ (zV.topK K229 ((zb_f (fun z => zb_eq.mp hc221 z.2.2)).symm))
            · refine zz_iconst (pc := 224) C (v := 1) (by decide) dL_isTerminal_224 ?_
              refine zz_goto (pc := 225) C (tgt := 229) dL_isTerminal_225 (by decide) ?_
              exact zV.less (L' := [some (.ref x), some (.int (nI k9)), some (.int (nI a9)), some (.int (nI b9)), some (.int (zb (¬ zNot σ k9))), some (.int (σ 21 0)), some (.int (σ 22 0)), some (.int (nI g9)), some (.int (zb (g9 < 41 ∧ zIsIn σ (nI g9) (σ 3 k9) 41))), none]) ⟨rfl, rfl, rfl, rfl, rfl, rfl, rfl, rfl, rfl, trivial⟩ (zV.topK K229 ((zb_t ⟨zbp hc206, Classical.not_not.mp hc216, (zbp hc221)⟩).symm))
      · exact absurd z41c hc151
    | succ n ih =>
      intro i hi hi1
      have K196 : zV p l e ({ frames := 12, cells := 20, slots := 120, locals := 340 } : Room) s m args below meth c D (zA G s.heap.size) 0 0 (zxZ below D G (fun v G9 => v = some (.int 1) ∧ zLq B x σ m0 G9) (fun _ => False) args s ({ frames := 12, cells := 20, slots := 120, locals := 340 } : Room)) G 196 [some (.ref x), some (.int (nI k9)), some (.int (nI a9)), some (.int (nI b9)), some (.int (zb (¬ zNot σ k9))), some (.int (σ 21 0)), some (.int (σ 22 0)), some (.int (nI g9)), some (.int (zb (g9 < 41 ∧ zIsIn σ (nI g9) (σ 3 k9) i))), some (.int (nI (i)))] [.int (zb (g9 < 41 ∧ zIsIn σ (nI g9) (σ 3 k9) (i + 1)))] := by
        refine zz_istore (pc := 196) C dL_isTerminal_196 (Nat.le_of_ble_eq_true rfl) ?_
        refine zV.less (L' := [some (.ref (x)), some (.int (nI k9)), some (.int (nI a9)), some (.int (nI b9)), some (.int (zb (¬ zNot σ k9))), some (.int (σ 21 0)), some (.int (σ 22 0)), some (.int (nI g9)), some (.int (zb (g9 < 41 ∧ zIsIn σ (nI g9) (σ 3 k9) (i + 1)))), some (.int (nI (i)))]) ⟨rfl, rfl, rfl, rfl, rfl, rfl, rfl, rfl, rfl, rfl, trivial⟩ ?_
        refine zz_iinc (pc := 198) C dL_isTerminal_198 rfl ?_
        refine zV.less (L' := [some (.ref (x)), some (.int (nI k9)), some (.int (nI a9)), some (.int (nI b9)), some (.int (zb (¬ zNot σ k9))), some (.int (σ 21 0)), some (.int (σ 22 0)), some (.int (nI g9)), some (.int (zb (g9 < 41 ∧ zIsIn σ (nI g9) (σ 3 k9) (i + 1)))), some (.int (nI (i + 1)))]) ⟨rfl, rfl, rfl, rfl, rfl, rfl, rfl, rfl, rfl, zvi (z1i i), trivial⟩ ?_
        refine zz_goto (pc := 201) C (tgt := 147) dL_isTerminal_201 (by decide) ?_
        exact ih (i + 1) (by omega) (by omega)
      refine zz_iload (pc := 147) C dL_isTerminal_147 rfl ?_
      refine zz_bipush (pc := 149) C (v := 41) (by decide) dL_isTerminal_149 ?_
      refine zz_icmp_ge (pc := 151) C (tgt := 204) dL_isTerminal_151 (by decide) (fun hc151 => ?_) (fun hc151 => ?_)
      · exact absurd hc151 (z41b (by omega))
      · refine zz_iload (pc := 154) C dL_isTerminal_154 rfl ?_
        refine zz_if_ne (pc := 156) C (tgt := 191) dL_isTerminal_156 (by decide) (fun hc156 => ?_) (fun hc156 => ?_)
        · refine zz_iconst (pc := 191) C (v := 1) (by decide) dL_isTerminal_191 ?_
          refine zz_goto (pc := 192) C (tgt := 196) dL_isTerminal_192 (by decide) ?_
          exact zV.less (L' := [some (.ref x), some (.int (nI k9)), some (.int (nI a9)), some (.int (nI b9)), some (.int (zb (¬ zNot σ k9))), some (.int (σ 21 0)), some (.int (σ 22 0)), some (.int (nI g9)), some (.int (zb (g9 < 41 ∧ zIsIn σ (nI g9) (σ 3 k9) i))), some (.int (nI (i)))]) ⟨rfl, rfl, rfl, rfl, rfl, rfl, rfl, rfl, rfl, rfl, trivial⟩ (zV.topK K196 ((zb_t ⟨(zb_ne.mp hc156).1, fun z => (zb_ne.mp hc156).2 (zAll_succ.mp z).1⟩).symm))
        · refine zz_iload (pc := 159) C dL_isTerminal_159 rfl ?_
          refine zz_bipush (pc := 161) C (v := 41) (by decide) dL_isTerminal_161 ?_
          refine zz_icmp_ge (pc := 163) C (tgt := 195) dL_isTerminal_163 (by decide) (fun hc163 => ?_) (fun hc163 => ?_)
          · refine zz_iconst (pc := 195) C (v := 0) (by decide) dL_isTerminal_195 ?_
            exact zV.less (L' := [some (.ref x), some (.int (nI k9)), some (.int (nI a9)), some (.int (nI b9)), some (.int (zb (¬ zNot σ k9))), some (.int (σ 21 0)), some (.int (σ 22 0)), some (.int (nI g9)), some (.int (zb (g9 < 41 ∧ zIsIn σ (nI g9) (σ 3 k9) i))), some (.int (nI (i)))]) ⟨rfl, rfl, rfl, rfl, rfl, rfl, rfl, rfl, rfl, rfl, trivial⟩ (zV.topK K196 ((zb_f (fun z => z41b z.1 hc163)).symm))
          · refine zz_aload_n (pc := 166) C dL_isTerminal_166 rfl ?_
            refine zz_iload (pc := 167) C dL_isTerminal_167 rfl ?_
            refine zz_iload (pc := 169) C dL_isTerminal_169 rfl ?_
            refine zz_callS (pc := 171) C (c_L_isMember l D hC (by omega) (by omega)) gL_isTerminal_L_isMember rfl 3 (by decide +kernel) ⟨Nat.le_of_ble_eq_true rfl, Nat.le_of_ble_eq_true rfl⟩ rfl dL_isTerminal_171 rfl (Nat.le_of_ble_eq_true rfl) rfl ⟨Nat.le_of_ble_eq_true rfl, Nat.le_of_ble_eq_true rfl⟩ ?_
            rintro v G9 ⟨rfl, rfl⟩
            refine zz_if_eq (pc := 174) C (tgt := 195) dL_isTerminal_174 (by decide) (fun hc174 => ?_) (fun hc174 => ?_)
            · refine zz_iconst (pc := 195) C (v := 0) (by decide) dL_isTerminal_195 ?_
              exact zV.less (L' := [some (.ref x), some (.int (nI k9)), some (.int (nI a9)), some (.int (nI b9)), some (.int (zb (¬ zNot σ k9))), some (.int (σ 21 0)), some (.int (σ 22 0)), some (.int (nI g9)), some (.int (zb (g9 < 41 ∧ zIsIn σ (nI g9) (σ 3 k9) i))), some (.int (nI (i)))]) ⟨rfl, rfl, rfl, rfl, rfl, rfl, rfl, rfl, rfl, rfl, trivial⟩ (zV.topK K196 ((zb_f (fun z => z.2 (zAll_succ.mpr ⟨Classical.not_not.mp (fun y => hc156 (zb_ne.mpr ⟨z.1, y⟩)), fun y => zb_eq.mp hc174 y.1⟩))).symm))
            · refine zz_aload_n (pc := 177) C dL_isTerminal_177 rfl ?_
              refine zz_iload (pc := 178) C dL_isTerminal_178 rfl ?_
              refine zz_callV (pc := 180) C (q_session l D hC (by omega) (by omega) (zbp hc174).1) gL_isTerminal_X2_session rfl 1 (by decide +kernel) ⟨Nat.le_of_ble_eq_true rfl, Nat.le_of_ble_eq_true rfl⟩ hC.x (ci := 2) rfl rfl rfl dL_isTerminal_180 rfl (Nat.le_of_ble_eq_true rfl) rfl ⟨Nat.le_of_ble_eq_true rfl, Nat.le_of_ble_eq_true rfl⟩ ?_
              rintro v G9 ⟨rfl, rfl⟩
              refine zz_aload_n (pc := 183) C dL_isTerminal_183 rfl ?_
              refine zz_iload_n (pc := 184) C dL_isTerminal_184 rfl ?_
              refine zz_callV (pc := 185) C (q_session l D hC h1 hk h0) gL_isTerminal_X2_session rfl 1 (by decide +kernel) ⟨Nat.le_of_ble_eq_true rfl, Nat.le_of_ble_eq_true rfl⟩ hC.x (ci := 2) rfl rfl rfl dL_isTerminal_185 rfl (Nat.le_of_ble_eq_true rfl) rfl ⟨Nat.le_of_ble_eq_true rfl, Nat.le_of_ble_eq_true rfl⟩ ?_
              rintro v G9 ⟨rfl, rfl⟩
              refine zz_icmp_ne (pc := 188) C (tgt := 195) dL_isTerminal_188 (by decide) (fun hc188 => ?_) (fun hc188 => ?_)
              · refine zz_iconst (pc := 195) C (v := 0) (by decide) dL_isTerminal_195 ?_
                exact zV.less (L' := [some (.ref x), some (.int (nI k9)), some (.int (nI a9)), some (.int (nI b9)), some (.int (zb (¬ zNot σ k9))), some (.int (σ 21 0)), some (.int (σ 22 0)), some (.int (nI g9)), some (.int (zb (g9 < 41 ∧ zIsIn σ (nI g9) (σ 3 k9) i))), some (.int (nI (i)))]) ⟨rfl, rfl, rfl, rfl, rfl, rfl, rfl, rfl, rfl, rfl, trivial⟩ (zV.topK K196 ((zb_f (fun z => z.2 (zAll_succ.mpr ⟨Classical.not_not.mp (fun y => hc156 (zb_ne.mpr ⟨z.1, y⟩)), fun y => hc188 y.2⟩))).symm))
              · refine zz_iconst (pc := 191) C (v := 1) (by decide) dL_isTerminal_191 ?_
                refine zz_goto (pc := 192) C (tgt := 196) dL_isTerminal_192 (by decide) ?_
                exact zV.less (L' := [some (.ref x), some (.int (nI k9)), some (.int (nI a9)), some (.int (nI b9)), some (.int (zb (¬ zNot σ k9))), some (.int (σ 21 0)), some (.int (σ 22 0)), some (.int (nI g9)), some (.int (zb (g9 < 41 ∧ zIsIn σ (nI g9) (σ 3 k9) i))), some (.int (nI (i)))]) ⟨rfl, rfl, rfl, rfl, rfl, rfl, rfl, rfl, rfl, rfl, trivial⟩ (zV.topK K196 ((zb_t ⟨zLt41 hg41 hc163, fun z => (zAll_succ.mp z).2 ⟨zbp hc174, Classical.not_not.mp hc188⟩⟩).symm))
  have K18 : zV p l e ({ frames := 12, cells := 20, slots := 120, locals := 340 } : Room) s m args below meth c D (zA G s.heap.size) 0 0 (zxZ below D G (fun v G9 => v = some (.int 1) ∧ zLq B x σ m0 G9) (fun _ => False) args s ({ frames := 12, cells := 20, slots := 120, locals := 340 } : Room)) G 18 [some (.ref x), some (.int (nI k9)), some (.int (nI a9)), some (.int (nI b9)), none, none, none, none, none, none] [.int (zb (¬ zNot σ k9))] := by
    refine zz_istore (pc := 18) C dL_isTerminal_18 (Nat.le_of_ble_eq_true rfl) ?_
    refine zV.less (L' := [some (.ref (x)), some (.int (nI k9)), some (.int (nI a9)), some (.int (nI b9)), some (.int (zb (¬ zNot σ k9))), none, none, none, none, none]) ⟨rfl, rfl, rfl, rfl, rfl, trivial⟩ ?_
    refine zz_aload_n (pc := 20) C dL_isTerminal_20 rfl ?_
    refine zz_callV (pc := 21) C (c_X2_terminalSession l D hC) gL_isTerminal_X2_terminalSession rfl 0 (by decide +kernel) ⟨Nat.le_of_ble_eq_true rfl, Nat.le_of_ble_eq_true rfl⟩ hC.x (ci := 2) rfl rfl rfl dL_isTerminal_21 rfl (Nat.le_of_ble_eq_true rfl) rfl ⟨Nat.le_of_ble_eq_true rfl, Nat.le_of_ble_eq_true rfl⟩ ?_
    rintro v G9 ⟨rfl, rfl⟩
    refine zz_istore (pc := 24) C dL_isTerminal_24 (Nat.le_of_ble_eq_true rfl) ?_
    refine zV.less (L' := [some (.ref (x)), some (.int (nI k9)), some (.int (nI a9)), some (.int (nI b9)), some (.int (zb (¬ zNot σ k9))), some (.int (σ 21 0)), none, none, none, none]) ⟨rfl, rfl, rfl, rfl, rfl, rfl, trivial⟩ ?_
    refine zz_aload_n (pc := 26) C dL_isTerminal_26 rfl ?_
    refine zz_callV (pc := 27) C (c_X2_foreground l D hC) gL_isTerminal_X2_foreground rfl 0 (by decide +kernel) ⟨Nat.le_of_ble_eq_true rfl, Nat.le_of_ble_eq_true rfl⟩ hC.x (ci := 2) rfl rfl rfl dL_isTerminal_27 rfl (Nat.le_of_ble_eq_true rfl) rfl ⟨Nat.le_of_ble_eq_true rfl, Nat.le_of_ble_eq_true rfl⟩ ?_
    rintro v G9 ⟨rfl, rfl⟩
    refine zz_istore (pc := 30) C dL_isTerminal_30 (Nat.le_of_ble_eq_true rfl) ?_
    refine zV.less (L' := [some (.ref (x)), some (.int (nI k9)), some (.int (nI a9)), some (.int (nI b9)), some (.int (zb (¬ zNot σ k9))), some (.int (σ 21 0)), some (.int (σ 22 0)), none, none, none]) ⟨rfl, rfl, rfl, rfl, rfl, rfl, rfl, trivial⟩ ?_
    refine zz_iload_n (pc := 32) C dL_isTerminal_32 rfl ?_
    refine zz_iconst (pc := 33) C (v := 4) (by decide) dL_isTerminal_33 ?_
    refine zz_irem (pc := 34) C (a := a9) (d := 4) dL_isTerminal_34 rfl rfl (by omega) (by decide) (by decide) ?_
    refine zz_iconst (pc := 35) C (v := 2) (by decide) dL_isTerminal_35 ?_
    refine zz_icmp_ge (pc := 36) C (tgt := 126) dL_isTerminal_36 (by decide) (fun hc36 => ?_) (fun hc36 => ?_)
    · refine zz_iload_n (pc := 126) C dL_isTerminal_126 rfl ?_
      refine zz_iconst (pc := 127) C (v := 4) (by decide) dL_isTerminal_127 ?_
      refine zz_irem (pc := 128) C (a := a9) (d := 4) dL_isTerminal_128 rfl rfl (by omega) (by decide) (by decide) ?_
      refine zz_iconst (pc := 129) C (v := 2) (by decide) dL_isTerminal_129 ?_
      refine zz_icmp_ne (pc := 130) C (tgt := 290) dL_isTerminal_130 (by decide) (fun hc130 => ?_) (fun hc130 => ?_)
      · exact absurd (by rw [hm]; rfl) hc130
      · refine zz_iconst (pc := 133) C (v := 1) (by decide) dL_isTerminal_133 ?_
        refine zz_iload_n (pc := 134) C dL_isTerminal_134 rfl ?_
        refine zz_bipush (pc := 135) C (v := 41) (by decide) dL_isTerminal_135 ?_
        refine zz_irem (pc := 137) C (a := b9) (d := 41) dL_isTerminal_137 rfl rfl (by omega) (by decide) (by decide) ?_
        refine zz_iadd (pc := 138) C dL_isTerminal_138 ?_
        refine zz_istore (pc := 139) C dL_isTerminal_139 (Nat.le_of_ble_eq_true rfl) ?_
        refine zV.less (L' := [some (.ref (x)), some (.int (nI k9)), some (.int (nI a9)), some (.int (nI b9)), some (.int (zb (¬ zNot σ k9))), some (.int (σ 21 0)), some (.int (σ 22 0)), some (.int (nI g9)), none, none]) ⟨rfl, rfl, rfl, rfl, rfl, rfl, rfl, zvi eg, trivial⟩ ?_
        refine zz_iconst (pc := 141) C (v := 0) (by decide) dL_isTerminal_141 ?_
        refine zz_istore (pc := 142) C dL_isTerminal_142 (Nat.le_of_ble_eq_true rfl) ?_
        refine zV.less (L' := [some (.ref (x)), some (.int (nI k9)), some (.int (nI a9)), some (.int (nI b9)), some (.int (zb (¬ zNot σ k9))), some (.int (σ 21 0)), some (.int (σ 22 0)), some (.int (nI g9)), some (.int (zb (g9 < 41 ∧ zIsIn σ (nI g9) (σ 3 k9) 1))), none]) ⟨rfl, rfl, rfl, rfl, rfl, rfl, rfl, rfl, zvi (zb_f hs).symm, trivial⟩ ?_
        refine zz_iconst (pc := 144) C (v := 1) (by decide) dL_isTerminal_144 ?_
        refine zz_istore (pc := 145) C dL_isTerminal_145 (Nat.le_of_ble_eq_true rfl) ?_
        refine zV.less (L' := [some (.ref (x)), some (.int (nI k9)), some (.int (nI a9)), some (.int (nI b9)), some (.int (zb (¬ zNot σ k9))), some (.int (σ 21 0)), some (.int (σ 22 0)), some (.int (nI g9)), some (.int (zb (g9 < 41 ∧ zIsIn σ (nI g9) (σ 3 k9) 1))), some (.int (nI 1))]) ⟨rfl, rfl, rfl, rfl, rfl, rfl, rfl, rfl, rfl, rfl, trivial⟩ ?_
        exact loop 40 1 rfl (by omega)
    · exact absurd (zM4le (by omega) (Nat.mod_lt _ (by decide))) hc36
  refine zz_iload_n (pc := 0) C dL_isTerminal_0 rfl ?_
  refine zz_iconst (pc := 1) C (v := 1) (by decide) dL_isTerminal_1 ?_
  refine zz_icmp_le (pc := 2) C (tgt := 17) dL_isTerminal_2 (by decide) (fun hc2 => ?_) (fun hc2 => ?_)
  · refine zz_iconst (pc := 17) C (v := 0) (by decide) dL_isTerminal_17 ?_
    exact zV.less (L' := [some (.ref x), some (.int (nI k9)), some (.int (nI a9)), some (.int (nI b9)), none, none, none, none, none, none]) ⟨rfl, rfl, rfl, rfl, trivial⟩ (zV.topK K18 ((zb_f (fun z => z (Or.inl (zLe1 h1 hk hc2)))).symm))
  · refine zz_aload_n (pc := 5) C dL_isTerminal_5 rfl ?_
    refine zz_iload_n (pc := 6) C dL_isTerminal_6 rfl ?_
    refine zz_callV (pc := 7) C (q_state l D hC h1 hk h0) gL_isTerminal_X2_state rfl 1 (by decide +kernel) ⟨Nat.le_of_ble_eq_true rfl, Nat.le_of_ble_eq_true rfl⟩ hC.x (ci := 2) rfl rfl rfl dL_isTerminal_7 rfl (Nat.le_of_ble_eq_true rfl) rfl ⟨Nat.le_of_ble_eq_true rfl, Nat.le_of_ble_eq_true rfl⟩ ?_
    rintro v G9 ⟨rfl, rfl⟩
    refine zz_if_ne (pc := 10) C (tgt := 17) dL_isTerminal_10 (by decide) (fun hc10 => ?_) (fun hc10 => ?_)
    · refine zz_iconst (pc := 17) C (v := 0) (by decide) dL_isTerminal_17 ?_
      exact zV.less (L' := [some (.ref x), some (.int (nI k9)), some (.int (nI a9)), some (.int (nI b9)), none, none, none, none, none, none]) ⟨rfl, rfl, rfl, rfl, trivial⟩ (zV.topK K18 ((zb_f (fun z => z (Or.inr (fun y => hc10 (zCon_0.mpr y))))).symm))
    · refine zz_iconst (pc := 13) C (v := 1) (by decide) dL_isTerminal_13 ?_
      refine zz_goto (pc := 14) C (tgt := 18) dL_isTerminal_14 (by decide) ?_
      exact zV.less (L' := [some (.ref x), some (.int (nI k9)), some (.int (nI a9)), some (.int (nI b9)), none, none, none, none, none, none]) ⟨rfl, rfl, rfl, rfl, trivial⟩ (zV.topK K18 ((zb_t (show ¬ zNot σ k9 from fun z => z.elim (fun y => hc2 (by rw [y]; decide)) (fun y => y (zCon_0.mp (Classical.not_not.mp hc10))))).symm))
set_option maxHeartbeats 4000000 in
set_option maxRecDepth 100000 in
theorem c_L_isTerminal_fy (l : Launch) (hl : l.stackTraces = false) (D : va_G) {B G : zG} {x tb ev : Nat} {A : Nat → Nat} {σ : zS} {m0 : Nat} (hC : zCl B x tb ev A σ [] 0 m0 G) {k9 a9 b9 g9 : Nat} (hI : zIv 0 σ []) (h1 : 1 ≤ k9) (hk : k9 < 41) (h0 : σ 0 k9 ≠ 0) (ha : a9 < 5000) (hb : b9 < 6000) (hm : a9 % 4 = 2) (hg9 : g9 = 1 + b9 % 41) (hg : g9 < 41) (hc9 : ¬ zNot σ k9 ∧ σ 3 k9 = σ 21 0 ∧ g9 < 41 ∧ zIsIn σ (nI g9) (σ 3 k9) 41) : zxMet D l yL_isTerminal wsL_isTerminal ({ frames := 12, cells := 20, slots := 120, locals := 340 } : Room) [.ref x, .int (nI k9), .int (nI a9), .int (nI b9)] G (fun v G9 => v = some (.int 1) ∧ zLq B x (zu σ 22 0 (nI g9)) m0 G9) (fun _ => False) := by
  refine zxMet_of (cc := cL_isTerminal) (maxL := 10) (ret := (some .boolean)) (by decide) rfl (Nat.le_of_ble_eq_true rfl) ?_
  intro p e s m args below meth c C hnx h8
  have hW := hI.wf
  have eg : (1 : Int32) + nI (b9 % 41) = nI g9 := by rw [hg9]; exact (Int32.add_comm _ _).trans ((z1a _).trans (by rw [Nat.add_comm]))
  have g1 : 1 ≤ g9 := by omega
  have hg41 : g9 < 2 ^ 31 := by omega
  have hs : ¬ (g9 < 41 ∧ zIsIn σ (nI g9) (σ 3 k9) 1) := fun z => z.2 (fun k hk1 y => y.1.1 (by rw [show k = 0 by omega]; exact hW.z))
  have hTH : zE3 (¬ zHere σ (nI k9)) (nI g9 < 1 ∨ (40 : Int32) < nI g9) (zNot σ (pn (nI k9)) ∨ σ 3 (pn (nI k9)) ≠ σ 21 0 ∨ ¬ zIsIn σ (nI g9) (σ 3 (pn (nI k9))) 41) = 0 := zE3_0 (fun z => z (zHere_n h1 hk h0)) (zNum_n g1 hg) (by rw [pnn hk]; exact fun z => z.elim hc9.1 (fun z => z.elim (fun y => y hc9.2.1) (fun y => y hc9.2.2.2)))
  have K229 : zV p l e ({ frames := 12, cells := 20, slots := 120, locals := 340 } : Room) s m args below meth c D (zA G s.heap.size) 0 0 (zxZ below D G (fun v G9 => v = some (.int 1) ∧ zLq B x (zu σ 22 0 (nI g9)) m0 G9) (fun _ => False) args s ({ frames := 12, cells := 20, slots := 120, locals := 340 } : Room)) G 229 [some (.ref x), some (.int (nI k9)), some (.int (nI a9)), some (.int (nI b9)), some (.int (zb (¬ zNot σ k9))), some (.int (σ 21 0)), some (.int (σ 22 0)), some (.int (nI g9)), some (.int (zb (g9 < 41 ∧ zIsIn σ (nI g9) (σ 3 k9) 41))), none] [.int (zb (¬ zNot σ k9 ∧ σ 3 k9 = σ 21 0 ∧ g9 < 41 ∧ zIsIn σ (nI g9) (σ 3 k9) 41))] := by
    refine zz_istore (pc := 229) C dL_isTerminal_229 (Nat.le_of_ble_eq_true rfl) ?_
    refine zV.less (L' := [some (.ref (x)), some (.int (nI k9)), some (.int (nI a9)), some (.int (nI b9)), some (.int (zb (¬ zNot σ k9))), some (.int (σ 21 0)), some (.int (σ 22 0)), some (.int (nI g9)), some (.int (zb (g9 < 41 ∧ zIsIn σ (nI g9) (σ 3 k9) 41))), some (.int (zb (¬ zNot σ k9 ∧ σ 3 k9 = σ 21 0 ∧ g9 < 41 ∧ zIsIn σ (nI g9) (σ 3 k9) 41)))]) ⟨rfl, rfl, rfl, rfl, rfl, rfl, rfl, rfl, rfl, rfl, trivial⟩ ?_
    refine zz_aload_n (pc := 231) C dL_isTerminal_231 rfl ?_
    refine zz_iload_n (pc := 232) C dL_isTerminal_232 rfl ?_
    refine zz_iload (pc := 233) C dL_isTerminal_233 rfl ?_
    refine zzx_callSW (pc := 235) C h8 ((c_L_setsForeground l hl D (x9 := nI k9) (g9 := nI g9) hC).imp (fun _ _ z => z.elim id (fun z => z.elim (fun y => absurd (hTH.symm.trans y.1) (by decide)) (fun z => z.elim (fun y => absurd (hTH.symm.trans y.1) (by decide)) (fun z => absurd (hTH.symm.trans z.1) (by decide))))) (fun _ z => z)) gL_isTerminal_L_setsForeground rfl 3 (by decide +kernel) ⟨Nat.le_of_ble_eq_true rfl, Nat.le_of_ble_eq_true rfl⟩ rfl dL_isTerminal_235 rfl (Nat.le_of_ble_eq_true rfl) rfl ⟨Nat.le_of_ble_eq_true rfl, Nat.le_of_ble_eq_true rfl⟩ (fun E hE => hE.elim) ?_
    rintro v G9 ⟨_, rfl, hC1⟩
    refine zz_iload (pc := 238) C dL_isTerminal_238 rfl ?_
    refine zz_bipush (pc := 240) C (v := 40) (by decide) dL_isTerminal_240 ?_
    refine zz_icmp_le (pc := 242) C (tgt := 250) dL_isTerminal_242 (by decide) (fun hc242 => ?_) (fun hc242 => ?_)
    · refine zz_iload (pc := 250) C dL_isTerminal_250 rfl ?_
      refine zz_if_eq (pc := 252) C (tgt := 260) dL_isTerminal_252 (by decide) (fun hc252 => ?_) (fun hc252 => ?_)
      · exact False.elim (zb_eq.mp hc252 hc9)
      · refine zz_iload (pc := 255) C dL_isTerminal_255 rfl ?_
        refine zz_goto (pc := 257) C (tgt := 262) dL_isTerminal_257 (by decide) ?_
        refine zz_icmp_ne (pc := 262) C (tgt := 288) dL_isTerminal_262 (by decide) (fun hc262 => ?_) (fun hc262 => ?_)
        · exact absurd rfl hc262
        · refine zz_aload_n (pc := 265) C dL_isTerminal_265 rfl ?_
          refine zz_callV (pc := 266) C (c_X2_foreground l D hC1) gL_isTerminal_X2_foreground rfl 0 (by decide +kernel) ⟨Nat.le_of_ble_eq_true rfl, Nat.le_of_ble_eq_true rfl⟩ hC1.x (ci := 2) rfl rfl rfl dL_isTerminal_266 rfl (Nat.le_of_ble_eq_true rfl) rfl ⟨Nat.le_of_ble_eq_true rfl, Nat.le_of_ble_eq_true rfl⟩ ?_
          rintro v G9 ⟨rfl, rfl⟩
          refine zz_iload (pc := 269) C dL_isTerminal_269 rfl ?_
          refine zz_if_eq (pc := 271) C (tgt := 279) dL_isTerminal_271 (by decide) (fun hc271 => ?_) (fun hc271 => ?_)
          · exact False.elim (zb_eq.mp hc271 hc9)
          · refine zz_iload (pc := 274) C dL_isTerminal_274 rfl ?_
            refine zz_goto (pc := 276) C (tgt := 281) dL_isTerminal_276 (by decide) ?_
            refine zz_icmp_ne (pc := 281) C (tgt := 288) dL_isTerminal_281 (by decide) (fun hc281 => ?_) (fun hc281 => ?_)
            · exact absurd zu_self hc281
            · refine zz_iconst (pc := 284) C (v := 1) (by decide) dL_isTerminal_284 ?_
              refine zz_goto (pc := 285) C (tgt := 289) dL_isTerminal_285 (by decide) ?_
              exact zzx_ret (zz_ireturn (pc := 289) C dL_isTerminal_289 (by first | rfl | exact zb_nar) (Nat.le_of_ble_eq_true rfl) (Nat.le_of_ble_eq_true rfl) ⟨rfl, ⟨tb, ev, A, hC1⟩⟩)
    · exact absurd (z40c (by omega)) hc242
  have loop : ∀ (n i : Nat), i + n = 41 → 1 ≤ i → zV p l e ({ frames := 12, cells := 20, slots := 120, locals := 340 } : Room) s m args below meth c D (zA G s.heap.size) 0 0 (zxZ below D G (fun v G9 => v = some (.int 1) ∧ zLq B x (zu σ 22 0 (nI g9)) m0 G9) (fun _ => False) args s ({ frames := 12, cells := 20, slots := 120, locals := 340 } : Room)) G 147 [some (.ref x), some (.int (nI k9)), some (.int (nI a9)), some (.int (nI b9)), some (.int (zb (¬ zNot σ k9))), some (.int (σ 21 0)), some (.int (σ 22 0)), some (.int (nI g9)), some (.int (zb (g9 < 41 ∧ zIsIn σ (nI g9) (σ 3 k9) i))), some (.int (nI (i)))] [] := by
    intro n
    induction n with
    | zero =>
      intro i hi hi1
      have hi41 : i = 41 := by omega
      subst hi41
      refine zz_iload (pc := 147) C dL_isTerminal_147 rfl ?_
      refine zz_bipush (pc := 149) C (v := 41) (by decide) dL_isTerminal_149 ?_
      refine zz_icmp_ge (pc := 151) C (tgt := 204) dL_isTerminal_151 (by decide) (fun hc151 => ?_) (fun hc151 => ?_)
      · refine zz_iload (pc := 204) C dL_isTerminal_204 rfl ?_
        refine zz_if_eq (pc := 206) C (tgt := 228) dL_isTerminal_206 (by decide) (fun hc206 => ?_) (fun hc206 => ?_)
        · refine zz_iconst (pc := 228) C (v := 0) (by decide) dL_isTerminal_228 ?_
          exact zV.less (L' := [some (.ref x), some (.int (nI k9)), some (.int (nI a9)), some (.int (nI b9)), some (.int (zb (¬ zNot σ k9))), some (.int (σ 21 0)), some (.int (σ 22 0)), some (.int (nI g9)), some (.int (zb (g9 < 41 ∧ zIsIn σ (nI g9) (σ 3 k9) 41))), none]) ⟨rfl, rfl, rfl, rfl, rfl, rfl, rfl, rfl, rfl, trivial⟩ (zV.topK K229 ((zb_f (fun z => zb_eq.mp hc206 z.1)).symm))
        · refine zz_aload_n (pc := 209) C dL_isTerminal_209 rfl ?_
          refine zz_iload_n (pc := 210) C dL_isTerminal_210 rfl ?_
          refine zz_callV (pc := 211) C (q_session l D hC h1 hk h0) gL_isTerminal_X2_session rfl 1 (by decide +kernel) ⟨Nat.le_of_ble_eq_true rfl, Nat.le_of_ble_eq_true rfl⟩ hC.x (ci := 2) rfl rfl rfl dL_isTerminal_211 rfl (Nat.le_of_ble_eq_true rfl) rfl ⟨Nat.le_of_ble_eq_true rfl, Nat.le_of_ble_eq_true rfl⟩ ?_
          rintro v G9 ⟨rfl, rfl⟩
          refine zz_iload (pc := 214) C dL_isTerminal_214 rfl ?_
          refine zz_icmp_ne (pc := 216) C (tgt := 228) dL_isTerminal_216 (by decide) (fun hc216 => ?_) (fun hc216 => ?_)
          · refine zz_iconst (pc := 228) C (v := 0) (by decide) dL_isTerminal_228 ?_
            exact zV.less (L' := [some (.ref x), some (.int (nI k9)), some (.int (nI a9)), some (.int (nI b9)), some (.int (zb (¬ zNot σ k9))), some (.int (σ 21 0)), some (.int (σ 22 0)), some (.int (nI g9)), some (.int (zb (g9 < 41 ∧ zIsIn σ (nI g9) (σ 3 k9) 41))), none]) ⟨rfl, rfl, rfl, rfl, rfl, rfl, rfl, rfl, rfl, trivial⟩ (zV.topK K229 ((zb_f (fun z => hc216 z.2.1)).symm))
          · refine zz_iload (pc := 219) C dL_isTerminal_219 rfl ?_
            refine zz_if_eq (pc := 221) C (tgt := 228) dL_isTerminal_221 (by decide) (fun hc221 => ?_) (fun hc221 => ?_)
            · refine zz_iconst (pc := 228) C (v := 0) (by decide) dL_isTerminal_228 ?_
              exact zV.less (L' := [some (.ref x), some (.int (nI k9)), some (.int (nI a9)), some (.int (nI b9)), some (.int (zb (¬ zNot σ k9))), some (.int (σ 21 0)), some (.int (σ 22 0)), some (.int (nI g9)), some (.int (zb (g9 < 41 ∧ zIsIn σ (nI g9) (σ 3 k9) 41))), none]) ⟨rfl, rfl, rfl, rfl, rfl, rfl, rfl, rfl, rfl, trivial⟩ (zV.topK K229 ((zb_f (fun z => zb_eq.mp hc221 z.2.2)).symm))
            · refine zz_iconst (pc := 224) C (v := 1) (by decide) dL_isTerminal_224 ?_
              refine zz_goto (pc := 225) C (tgt := 229) dL_isTerminal_225 (by decide) ?_
              exact zV.less (L' := [some (.ref x), some (.int (nI k9)), some (.int (nI a9)), some (.int (nI b9)), some (.int (zb (¬ zNot σ k9))), some (.int (σ 21 0)), some (.int (σ 22 0)), some (.int (nI g9)), some (.int (zb (g9 < 41 ∧ zIsIn σ (nI g9) (σ 3 k9) 41))), none]) ⟨rfl, rfl, rfl, rfl, rfl, rfl, rfl, rfl, rfl, trivial⟩ (zV.topK K229 ((zb_t ⟨zbp hc206, Classical.not_not.mp hc216, (zbp hc221)⟩).symm))
      · exact absurd z41c hc151
    | succ n ih =>
      intro i hi hi1
      have K196 : zV p l e ({ frames := 12, cells := 20, slots := 120, locals := 340 } : Room) s m args below meth c D (zA G s.heap.size) 0 0 (zxZ below D G (fun v G9 => v = some (.int 1) ∧ zLq B x (zu σ 22 0 (nI g9)) m0 G9) (fun _ => False) args s ({ frames := 12, cells := 20, slots := 120, locals := 340 } : Room)) G 196 [some (.ref x), some (.int (nI k9)), some (.int (nI a9)), some (.int (nI b9)), some (.int (zb (¬ zNot σ k9))), some (.int (σ 21 0)), some (.int (σ 22 0)), some (.int (nI g9)), some (.int (zb (g9 < 41 ∧ zIsIn σ (nI g9) (σ 3 k9) i))), some (.int (nI (i)))] [.int (zb (g9 < 41 ∧ zIsIn σ (nI g9) (σ 3 k9) (i + 1)))] := by
        refine zz_istore (pc := 196) C dL_isTerminal_196 (Nat.le_of_ble_eq_true rfl) ?_
        refine zV.less (L' := [some (.ref (x)), some (.int (nI k9)), some (.int (nI a9)), some (.int (nI b9)), some (.int (zb (¬ zNot σ k9))), some (.int (σ 21 0)), some (.int (σ 22 0)), some (.int (nI g9)), some (.int (zb (g9 < 41 ∧ zIsIn σ (nI g9) (σ 3 k9) (i + 1)))), some (.int (nI (i)))]) ⟨rfl, rfl, rfl, rfl, rfl, rfl, rfl, rfl, rfl, rfl, trivial⟩ ?_
        refine zz_iinc (pc := 198) C dL_isTerminal_198 rfl ?_
        refine zV.less (L' := [some (.ref (x)), some (.int (nI k9)), some (.int (nI a9)), some (.int (nI b9)), some (.int (zb (¬ zNot σ k9))), some (.int (σ 21 0)), some (.int (σ 22 0)), some (.int (nI g9)), some (.int (zb (g9 < 41 ∧ zIsIn σ (nI g9) (σ 3 k9) (i + 1)))), some (.int (nI (i + 1)))]) ⟨rfl, rfl, rfl, rfl, rfl, rfl, rfl, rfl, rfl, zvi (z1i i), trivial⟩ ?_
        refine zz_goto (pc := 201) C (tgt := 147) dL_isTerminal_201 (by decide) ?_
        exact ih (i + 1) (by omega) (by omega)
      refine zz_iload (pc := 147) C dL_isTerminal_147 rfl ?_
      refine zz_bipush (pc := 149) C (v := 41) (by decide) dL_isTerminal_149 ?_
      refine zz_icmp_ge (pc := 151) C (tgt := 204) dL_isTerminal_151 (by decide) (fun hc151 => ?_) (fun hc151 => ?_)
      · exact absurd hc151 (z41b (by omega))
      · refine zz_iload (pc := 154) C dL_isTerminal_154 rfl ?_
        refine zz_if_ne (pc := 156) C (tgt := 191) dL_isTerminal_156 (by decide) (fun hc156 => ?_) (fun hc156 => ?_)
        · refine zz_iconst (pc := 191) C (v := 1) (by decide) dL_isTerminal_191 ?_
          refine zz_goto (pc := 192) C (tgt := 196) dL_isTerminal_192 (by decide) ?_
          exact zV.less (L' := [some (.ref x), some (.int (nI k9)), some (.int (nI a9)), some (.int (nI b9)), some (.int (zb (¬ zNot σ k9))), some (.int (σ 21 0)), some (.int (σ 22 0)), some (.int (nI g9)), some (.int (zb (g9 < 41 ∧ zIsIn σ (nI g9) (σ 3 k9) i))), some (.int (nI (i)))]) ⟨rfl, rfl, rfl, rfl, rfl, rfl, rfl, rfl, rfl, rfl, trivial⟩ (zV.topK K196 ((zb_t ⟨(zb_ne.mp hc156).1, fun z => (zb_ne.mp hc156).2 (zAll_succ.mp z).1⟩).symm))
        · refine zz_iload (pc := 159) C dL_isTerminal_159 rfl ?_
          refine zz_bipush (pc := 161) C (v := 41) (by decide) dL_isTerminal_161 ?_
          refine zz_icmp_ge (pc := 163) C (tgt := 195) dL_isTerminal_163 (by decide) (fun hc163 => ?_) (fun hc163 => ?_)
          · refine zz_iconst (pc := 195) C (v := 0) (by decide) dL_isTerminal_195 ?_
            exact zV.less (L' := [some (.ref x), some (.int (nI k9)), some (.int (nI a9)), some (.int (nI b9)), some (.int (zb (¬ zNot σ k9))), some (.int (σ 21 0)), some (.int (σ 22 0)), some (.int (nI g9)), some (.int (zb (g9 < 41 ∧ zIsIn σ (nI g9) (σ 3 k9) i))), some (.int (nI (i)))]) ⟨rfl, rfl, rfl, rfl, rfl, rfl, rfl, rfl, rfl, rfl, trivial⟩ (zV.topK K196 ((zb_f (fun z => z41b z.1 hc163)).symm))
          · refine zz_aload_n (pc := 166) C dL_isTerminal_166 rfl ?_
            refine zz_iload (pc := 167) C dL_isTerminal_167 rfl ?_
            refine zz_iload (pc := 169) C dL_isTerminal_169 rfl ?_
            refine zz_callS (pc := 171) C (c_L_isMember l D hC (by omega) (by omega)) gL_isTerminal_L_isMember rfl 3 (by decide +kernel) ⟨Nat.le_of_ble_eq_true rfl, Nat.le_of_ble_eq_true rfl⟩ rfl dL_isTerminal_171 rfl (Nat.le_of_ble_eq_true rfl) rfl ⟨Nat.le_of_ble_eq_true rfl, Nat.le_of_ble_eq_true rfl⟩ ?_
            rintro v G9 ⟨rfl, rfl⟩
            refine zz_if_eq (pc := 174) C (tgt := 195) dL_isTerminal_174 (by decide) (fun hc174 => ?_) (fun hc174 => ?_)
            · refine zz_iconst (pc := 195) C (v := 0) (by decide) dL_isTerminal_195 ?_
              exact zV.less (L' := [some (.ref x), some (.int (nI k9)), some (.int (nI a9)), some (.int (nI b9)), some (.int (zb (¬ zNot σ k9))), some (.int (σ 21 0)), some (.int (σ 22 0)), some (.int (nI g9)), some (.int (zb (g9 < 41 ∧ zIsIn σ (nI g9) (σ 3 k9) i))), some (.int (nI (i)))]) ⟨rfl, rfl, rfl, rfl, rfl, rfl, rfl, rfl, rfl, rfl, trivial⟩ (zV.topK K196 ((zb_f (fun z => z.2 (zAll_succ.mpr ⟨Classical.not_not.mp (fun y => hc156 (zb_ne.mpr ⟨z.1, y⟩)), fun y => zb_eq.mp hc174 y.1⟩))).symm))
            · refine zz_aload_n (pc := 177) C dL_isTerminal_177 rfl ?_
              refine zz_iload (pc := 178) C dL_isTerminal_178 rfl ?_
              refine zz_callV (pc := 180) C (q_session l D hC (by omega) (by omega) (zbp hc174).1) gL_isTerminal_X2_session rfl 1 (by decide +kernel) ⟨Nat.le_of_ble_eq_true rfl, Nat.le_of_ble_eq_true rfl⟩ hC.x (ci := 2) rfl rfl rfl dL_isTerminal_180 rfl (Nat.le_of_ble_eq_true rfl) rfl ⟨Nat.le_of_ble_eq_true rfl, Nat.le_of_ble_eq_true rfl⟩ ?_
              rintro v G9 ⟨rfl, rfl⟩
              refine zz_aload_n (pc := 183) C dL_isTerminal_183 rfl ?_
              refine zz_iload_n (pc := 184) C dL_isTerminal_184 rfl ?_
              refine zz_callV (pc := 185) C (q_session l D hC h1 hk h0) gL_isTerminal_X2_session rfl 1 (by decide +kernel) ⟨Nat.le_of_ble_eq_true rfl, Nat.le_of_ble_eq_true rfl⟩ hC.x (ci := 2) rfl rfl rfl dL_isTerminal_185 rfl (Nat.le_of_ble_eq_true rfl) rfl ⟨Nat.le_of_ble_eq_true rfl, Nat.le_of_ble_eq_true rfl⟩ ?_
              rintro v G9 ⟨rfl, rfl⟩
              refine zz_icmp_ne (pc := 188) C (tgt := 195) dL_isTerminal_188 (by decide) (fun hc188 => ?_) (fun hc188 => ?_)
              · refine zz_iconst (pc := 195) C (v := 0) (by decide) dL_isTerminal_195 ?_
                exact zV.less (L' := [some (.ref x), some (.int (nI k9)), some (.int (nI a9)), some (.int (nI b9)), some (.int (zb (¬ zNot σ k9))), some (.int (σ 21 0)), some (.int (σ 22 0)), some (.int (nI g9)), some (.int (zb (g9 < 41 ∧ zIsIn σ (nI g9) (σ 3 k9) i))), some (.int (nI (i)))]) ⟨rfl, rfl, rfl, rfl, rfl, rfl, rfl, rfl, rfl, rfl, trivial⟩ (zV.topK K196 ((zb_f (fun z => z.2 (zAll_succ.mpr ⟨Classical.not_not.mp (fun y => hc156 (zb_ne.mpr ⟨z.1, y⟩)), fun y => hc188 y.2⟩))).symm))
              · refine zz_iconst (pc := 191) C (v := 1) (by decide) dL_isTerminal_191 ?_
                refine zz_goto (pc := 192) C (tgt := 196) dL_isTerminal_192 (by decide) ?_
                exact zV.less (L' := [some (.ref x), some (.int (nI k9)), some (.int (nI a9)), some (.int (nI b9)), some (.int (zb (¬ zNot σ k9))), some (.int (σ 21 0)), some (.int (σ 22 0)), some (.int (nI g9)), some (.int (zb (g9 < 41 ∧ zIsIn σ (nI g9) (σ 3 k9) i))), some (.int (nI (i)))]) ⟨rfl, rfl, rfl, rfl, rfl, rfl, rfl, rfl, rfl, rfl, trivial⟩ (zV.topK K196 ((zb_t ⟨zLt41 hg41 hc163, fun z => (zAll_succ.mp z).2 ⟨zbp hc174, Classical.not_not.mp hc188⟩⟩).symm))
  have K18 : zV p l e ({ frames := 12, cells := 20, slots := 120, locals := 340 } : Room) s m args below meth c D (zA G s.heap.size) 0 0 (zxZ below D G (fun v G9 => v = some (.int 1) ∧ zLq B x (zu σ 22 0 (nI g9)) m0 G9) (fun _ => False) args s ({ frames := 12, cells := 20, slots := 120, locals := 340 } : Room)) G 18 [some (.ref x), some (.int (nI k9)), some (.int (nI a9)), some (.int (nI b9)), none, none, none, none, none, none] [.int (zb (¬ zNot σ k9))] := by
    refine zz_istore (pc := 18) C dL_isTerminal_18 (Nat.le_of_ble_eq_true rfl) ?_
    refine zV.less (L' := [some (.ref (x)), some (.int (nI k9)), some (.int (nI a9)), some (.int (nI b9)), some (.int (zb (¬ zNot σ k9))), none, none, none, none, none]) ⟨rfl, rfl, rfl, rfl, rfl, trivial⟩ ?_
    refine zz_aload_n (pc := 20) C dL_isTerminal_20 rfl ?_
    refine zz_callV (pc := 21) C (c_X2_terminalSession l D hC) gL_isTerminal_X2_terminalSession rfl 0 (by decide +kernel) ⟨Nat.le_of_ble_eq_true rfl, Nat.le_of_ble_eq_true rfl⟩ hC.x (ci := 2) rfl rfl rfl dL_isTerminal_21 rfl (Nat.le_of_ble_eq_true rfl) rfl ⟨Nat.le_of_ble_eq_true rfl, Nat.le_of_ble_eq_true rfl⟩ ?_
    rintro v G9 ⟨rfl, rfl⟩
    refine zz_istore (pc := 24) C dL_isTerminal_24 (Nat.le_of_ble_eq_true rfl) ?_
    refine zV.less (L' := [some (.ref (x)), some (.int (nI k9)), some (.int (nI a9)), some (.int (nI b9)), some (.int (zb (¬ zNot σ k9))), some (.int (σ 21 0)), none, none, none, none]) ⟨rfl, rfl, rfl, rfl, rfl, rfl, trivial⟩ ?_
    refine zz_aload_n (pc := 26) C dL_isTerminal_26 rfl ?_
    refine zz_callV (pc := 27) C (c_X2_foreground l D hC) gL_isTerminal_X2_foreground rfl 0 (by decide +kernel) ⟨Nat.le_of_ble_eq_true rfl, Nat.le_of_ble_eq_true rfl⟩ hC.x (ci := 2) rfl rfl rfl dL_isTerminal_27 rfl (Nat.le_of_ble_eq_true rfl) rfl ⟨Nat.le_of_ble_eq_true rfl, Nat.le_of_ble_eq_true rfl⟩ ?_
    rintro v G9 ⟨rfl, rfl⟩
    refine zz_istore (pc := 30) C dL_isTerminal_30 (Nat.le_of_ble_eq_true rfl) ?_
    refine zV.less (L' := [some (.ref (x)), some (.int (nI k9)), some (.int (nI a9)), some (.int (nI b9)), some (.int (zb (¬ zNot σ k9))), some (.int (σ 21 0)), some (.int (σ 22 0)), none, none, none]) ⟨rfl, rfl, rfl, rfl, rfl, rfl, rfl, trivial⟩ ?_
    refine zz_iload_n (pc := 32) C dL_isTerminal_32 rfl ?_
    refine zz_iconst (pc := 33) C (v := 4) (by decide) dL_isTerminal_33 ?_
    refine zz_irem (pc := 34) C (a := a9) (d := 4) dL_isTerminal_34 rfl rfl (by omega) (by decide) (by decide) ?_
    refine zz_iconst (pc := 35) C (v := 2) (by decide) dL_isTerminal_35 ?_
    refine zz_icmp_ge (pc := 36) C (tgt := 126) dL_isTerminal_36 (by decide) (fun hc36 => ?_) (fun hc36 => ?_)
    · refine zz_iload_n (pc := 126) C dL_isTerminal_126 rfl ?_
      refine zz_iconst (pc := 127) C (v := 4) (by decide) dL_isTerminal_127 ?_
      refine zz_irem (pc := 128) C (a := a9) (d := 4) dL_isTerminal_128 rfl rfl (by omega) (by decide) (by decide) ?_
      refine zz_iconst (pc := 129) C (v := 2) (by decide) dL_isTerminal_129 ?_
      refine zz_icmp_ne (pc := 130) C (tgt := 290) dL_isTerminal_130 (by decide) (fun hc130 => ?_) (fun hc130 => ?_)
      · exact absurd (by rw [hm]; rfl) hc130
      · refine zz_iconst (pc := 133) C (v := 1) (by decide) dL_isTerminal_133 ?_
        refine zz_iload_n (pc := 134) C dL_isTerminal_134 rfl ?_
        refine zz_bipush (pc := 135) C (v := 41) (by decide) dL_isTerminal_135 ?_
        refine zz_irem (pc := 137) C (a := b9) (d := 41) dL_isTerminal_137 rfl rfl (by omega) (by decide) (by decide) ?_
        refine zz_iadd (pc := 138) C dL_isTerminal_138 ?_
        refine zz_istore (pc := 139) C dL_isTerminal_139 (Nat.le_of_ble_eq_true rfl) ?_
        refine zV.less (L' := [some (.ref (x)), some (.int (nI k9)), some (.int (nI a9)), some (.int (nI b9)), some (.int (zb (¬ zNot σ k9))), some (.int (σ 21 0)), some (.int (σ 22 0)), some (.int (nI g9)), none, none]) ⟨rfl, rfl, rfl, rfl, rfl, rfl, rfl, zvi eg, trivial⟩ ?_
        refine zz_iconst (pc := 141) C (v := 0) (by decide) dL_isTerminal_141 ?_
        refine zz_istore (pc := 142) C dL_isTerminal_142 (Nat.le_of_ble_eq_true rfl) ?_
        refine zV.less (L' := [some (.ref (x)), some (.int (nI k9)), some (.int (nI a9)), some (.int (nI b9)), some (.int (zb (¬ zNot σ k9))), some (.int (σ 21 0)), some (.int (σ 22 0)), some (.int (nI g9)), some (.int (zb (g9 < 41 ∧ zIsIn σ (nI g9) (σ 3 k9) 1))), none]) ⟨rfl, rfl, rfl, rfl, rfl, rfl, rfl, rfl, zvi (zb_f hs).symm, trivial⟩ ?_
        refine zz_iconst (pc := 144) C (v := 1) (by decide) dL_isTerminal_144 ?_
        refine zz_istore (pc := 145) C dL_isTerminal_145 (Nat.le_of_ble_eq_true rfl) ?_
        refine zV.less (L' := [some (.ref (x)), some (.int (nI k9)), some (.int (nI a9)), some (.int (nI b9)), some (.int (zb (¬ zNot σ k9))), some (.int (σ 21 0)), some (.int (σ 22 0)), some (.int (nI g9)), some (.int (zb (g9 < 41 ∧ zIsIn σ (nI g9) (σ 3 k9) 1))), some (.int (nI 1))]) ⟨rfl, rfl, rfl, rfl, rfl, rfl, rfl, rfl, rfl, rfl, trivial⟩ ?_
        exact loop 40 1 rfl (by omega)
    · exact absurd (zM4le (by omega) (Nat.mod_lt _ (by decide))) hc36
  refine zz_iload_n (pc := 0) C dL_isTerminal_0 rfl ?_
  refine zz_iconst (pc := 1) C (v := 1) (by decide) dL_isTerminal_1 ?_
  refine zz_icmp_le (pc := 2) C (tgt := 17) dL_isTerminal_2 (by decide) (fun hc2 => ?_) (fun hc2 => ?_)
  · refine zz_iconst (pc := 17) C (v := 0) (by decide) dL_isTerminal_17 ?_
    exact zV.less (L' := [some (.ref x), some (.int (nI k9)), some (.int (nI a9)), some (.int (nI b9)), none, none, none, none, none, none]) ⟨rfl, rfl, rfl, rfl, trivial⟩ (zV.topK K18 ((zb_f (fun z => z (Or.inl (zLe1 h1 hk hc2)))).symm))
  · refine zz_aload_n (pc := 5) C dL_isTerminal_5 rfl ?_
    refine zz_iload_n (pc := 6) C dL_isTerminal_6 rfl ?_
    refine zz_callV (pc := 7) C (q_state l D hC h1 hk h0) gL_isTerminal_X2_state rfl 1 (by decide +kernel) ⟨Nat.le_of_ble_eq_true rfl, Nat.le_of_ble_eq_true rfl⟩ hC.x (ci := 2) rfl rfl rfl dL_isTerminal_7 rfl (Nat.le_of_ble_eq_true rfl) rfl ⟨Nat.le_of_ble_eq_true rfl, Nat.le_of_ble_eq_true rfl⟩ ?_
    rintro v G9 ⟨rfl, rfl⟩
    refine zz_if_ne (pc := 10) C (tgt := 17) dL_isTerminal_10 (by decide) (fun hc10 => ?_) (fun hc10 => ?_)
    · refine zz_iconst (pc := 17) C (v := 0) (by decide) dL_isTerminal_17 ?_
      exact zV.less (L' := [some (.ref x), some (.int (nI k9)), some (.int (nI a9)), some (.int (nI b9)), none, none, none, none, none, none]) ⟨rfl, rfl, rfl, rfl, trivial⟩ (zV.topK K18 ((zb_f (fun z => z (Or.inr (fun y => hc10 (zCon_0.mpr y))))).symm))
    · refine zz_iconst (pc := 13) C (v := 1) (by decide) dL_isTerminal_13 ?_
      refine zz_goto (pc := 14) C (tgt := 18) dL_isTerminal_14 (by decide) ?_
      exact zV.less (L' := [some (.ref x), some (.int (nI k9)), some (.int (nI a9)), some (.int (nI b9)), none, none, none, none, none, none]) ⟨rfl, rfl, rfl, rfl, trivial⟩ (zV.topK K18 ((zb_t (show ¬ zNot σ k9 from fun z => z.elim (fun y => hc2 (by rw [y]; decide)) (fun y => y (zCon_0.mp (Classical.not_not.mp hc10))))).symm))
set_option maxHeartbeats 4000000 in
set_option maxRecDepth 100000 in
theorem c_L_isTerminal_fn (l : Launch) (hl : l.stackTraces = false) (D : va_G) {B G : zG} {x tb ev : Nat} {A : Nat → Nat} {σ : zS} {m0 : Nat} (hC : zCl B x tb ev A σ [] 0 m0 G) {k9 a9 b9 g9 : Nat} (hI : zIv 0 σ []) (h1 : 1 ≤ k9) (hk : k9 < 41) (h0 : σ 0 k9 ≠ 0) (ha : a9 < 5000) (hb : b9 < 6000) (hm : a9 % 4 = 2) (hg9 : g9 = 1 + b9 % 41) (hg : g9 < 41) (hc9 : ¬ (¬ zNot σ k9 ∧ σ 3 k9 = σ 21 0 ∧ g9 < 41 ∧ zIsIn σ (nI g9) (σ 3 k9) 41)) : zxMet D l yL_isTerminal wsL_isTerminal ({ frames := 12, cells := 20, slots := 120, locals := 340 } : Room) [.ref x, .int (nI k9), .int (nI a9), .int (nI b9)] G (fun v G9 => v = some (.int 1) ∧ zLq B x σ m0 G9) (fun _ => False) := by
  refine zxMet_of (cc := cL_isTerminal) (maxL := 10) (ret := (some .boolean)) (by decide) rfl (Nat.le_of_ble_eq_true rfl) ?_
  intro p e s m args below meth c C hnx h8
  have hW := hI.wf
  have eg : (1 : Int32) + nI (b9 % 41) = nI g9 := by rw [hg9]; exact (Int32.add_comm _ _).trans ((z1a _).trans (by rw [Nat.add_comm]))
  have g1 : 1 ≤ g9 := by omega
  have hg41 : g9 < 2 ^ 31 := by omega
  have hs : ¬ (g9 < 41 ∧ zIsIn σ (nI g9) (σ 3 k9) 1) := fun z => z.2 (fun k hk1 y => y.1.1 (by rw [show k = 0 by omega]; exact hW.z))
  have hTH : zE3 (¬ zHere σ (nI k9)) (nI g9 < 1 ∨ (40 : Int32) < nI g9) (zNot σ (pn (nI k9)) ∨ σ 3 (pn (nI k9)) ≠ σ 21 0 ∨ ¬ zIsIn σ (nI g9) (σ 3 (pn (nI k9))) 41) = 3 := zE3_3 (fun z => z (zHere_n h1 hk h0)) (zNum_n g1 hg) (by rw [pnn hk]; by_cases z : zNot σ k9; exact Or.inl z; by_cases y : σ 3 k9 = σ 21 0; by_cases u : zIsIn σ (nI g9) (σ 3 k9) 41; exact absurd ⟨z, y, hg, u⟩ hc9; exact Or.inr (Or.inr u); exact Or.inr (Or.inl y))
  have K229 : zV p l e ({ frames := 12, cells := 20, slots := 120, locals := 340 } : Room) s m args below meth c D (zA G s.heap.size) 0 0 (zxZ below D G (fun v G9 => v = some (.int 1) ∧ zLq B x σ m0 G9) (fun _ => False) args s ({ frames := 12, cells := 20, slots := 120, locals := 340 } : Room)) G 229 [some (.ref x), some (.int (nI k9)), some (.int (nI a9)), some (.int (nI b9)), some (.int (zb (¬ zNot σ k9))), some (.int (σ 21 0)), some (.int (σ 22 0)), some (.int (nI g9)), some (.int (zb (g9 < 41 ∧ zIsIn σ (nI g9) (σ 3 k9) 41))), none] [.int (zb (¬ zNot σ k9 ∧ σ 3 k9 = σ 21 0 ∧ g9 < 41 ∧ zIsIn σ (nI g9) (σ 3 k9) 41))] := by
    refine zz_istore (pc := 229) C dL_isTerminal_229 (Nat.le_of_ble_eq_true rfl) ?_
    refine zV.less (L' := [some (.ref (x)), some (.int (nI k9)), some (.int (nI a9)), some (.int (nI b9)), some (.int (zb (¬ zNot σ k9))), some (.int (σ 21 0)), some (.int (σ 22 0)), some (.int (nI g9)), some (.int (zb (g9 < 41 ∧ zIsIn σ (nI g9) (σ 3 k9) 41))), some (.int (zb (¬ zNot σ k9 ∧ σ 3 k9 = σ 21 0 ∧ g9 < 41 ∧ zIsIn σ (nI g9) (σ 3 k9) 41)))]) ⟨rfl, rfl, rfl, rfl, rfl, rfl, rfl, rfl, rfl, rfl, trivial⟩ ?_
    refine zz_aload_n (pc := 231) C dL_isTerminal_231 rfl ?_
    refine zz_iload_n (pc := 232) C dL_isTerminal_232 rfl ?_
    refine zz_iload (pc := 233) C dL_isTerminal_233 rfl ?_
    refine zzx_callSW (pc := 235) C h8 ((c_L_setsForeground l hl D (x9 := nI k9) (g9 := nI g9) hC).imp (fun _ _ z => z.elim (fun y => absurd (hTH.symm.trans y.1) (by decide)) (fun z => z.elim (fun y => absurd (hTH.symm.trans y.1) (by decide)) (fun z => z.elim (fun y => absurd (hTH.symm.trans y.1) (by decide)) (fun z => z)))) (fun _ z => z)) gL_isTerminal_L_setsForeground rfl 3 (by decide +kernel) ⟨Nat.le_of_ble_eq_true rfl, Nat.le_of_ble_eq_true rfl⟩ rfl dL_isTerminal_235 rfl (Nat.le_of_ble_eq_true rfl) rfl ⟨Nat.le_of_ble_eq_true rfl, Nat.le_of_ble_eq_true rfl⟩ (fun E hE => hE.elim) ?_
    rintro v G9 ⟨_, rfl, rfl⟩
    refine zz_iload (pc := 238) C dL_isTerminal_238 rfl ?_
    refine zz_bipush (pc := 240) C (v := 40) (by decide) dL_isTerminal_240 ?_
    refine zz_icmp_le (pc := 242) C (tgt := 250) dL_isTerminal_242 (by decide) (fun hc242 => ?_) (fun hc242 => ?_)
    · refine zz_iload (pc := 250) C dL_isTerminal_250 rfl ?_
      refine zz_if_eq (pc := 252) C (tgt := 260) dL_isTerminal_252 (by decide) (fun hc252 => ?_) (fun hc252 => ?_)
      · refine zz_bipush (pc := 260) C (v := -10) (by decide) dL_isTerminal_260 ?_
        refine zz_icmp_ne (pc := 262) C (tgt := 288) dL_isTerminal_262 (by decide) (fun hc262 => ?_) (fun hc262 => ?_)
        · exact absurd rfl hc262
        · refine zz_aload_n (pc := 265) C dL_isTerminal_265 rfl ?_
          refine zz_callV (pc := 266) C (c_X2_foreground l D hC) gL_isTerminal_X2_foreground rfl 0 (by decide +kernel) ⟨Nat.le_of_ble_eq_true rfl, Nat.le_of_ble_eq_true rfl⟩ hC.x (ci := 2) rfl rfl rfl dL_isTerminal_266 rfl (Nat.le_of_ble_eq_true rfl) rfl ⟨Nat.le_of_ble_eq_true rfl, Nat.le_of_ble_eq_true rfl⟩ ?_
          rintro v G9 ⟨rfl, rfl⟩
          refine zz_iload (pc := 269) C dL_isTerminal_269 rfl ?_
          refine zz_if_eq (pc := 271) C (tgt := 279) dL_isTerminal_271 (by decide) (fun hc271 => ?_) (fun hc271 => ?_)
          · refine zz_iload (pc := 279) C dL_isTerminal_279 rfl ?_
            refine zz_icmp_ne (pc := 281) C (tgt := 288) dL_isTerminal_281 (by decide) (fun hc281 => ?_) (fun hc281 => ?_)
            · exact absurd rfl hc281
            · refine zz_iconst (pc := 284) C (v := 1) (by decide) dL_isTerminal_284 ?_
              refine zz_goto (pc := 285) C (tgt := 289) dL_isTerminal_285 (by decide) ?_
              exact zzx_ret (zz_ireturn (pc := 289) C dL_isTerminal_289 (by first | rfl | exact zb_nar) (Nat.le_of_ble_eq_true rfl) (Nat.le_of_ble_eq_true rfl) ⟨rfl, ⟨tb, ev, A, hC⟩⟩)
          · exact False.elim (hc9 (zbp hc271))
      · exact False.elim (hc9 (zbp hc252))
    · exact absurd (z40c (by omega)) hc242
  have loop : ∀ (n i : Nat), i + n = 41 → 1 ≤ i → zV p l e ({ frames := 12, cells := 20, slots := 120, locals := 340 } : Room) s m args below meth c D (zA G s.heap.size) 0 0 (zxZ below D G (fun v G9 => v = some (.int 1) ∧ zLq B x σ m0 G9) (fun _ => False) args s ({ frames := 12, cells := 20, slots := 120, locals := 340 } : Room)) G 147 [some (.ref x), some (.int (nI k9)), some (.int (nI a9)), some (.int (nI b9)), some (.int (zb (¬ zNot σ k9))), some (.int (σ 21 0)), some (.int (σ 22 0)), some (.int (nI g9)), some (.int (zb (g9 < 41 ∧ zIsIn σ (nI g9) (σ 3 k9) i))), some (.int (nI (i)))] [] := by
    intro n
    induction n with
    | zero =>
      intro i hi hi1
      have hi41 : i = 41 := by omega
      subst hi41
      refine zz_iload (pc := 147) C dL_isTerminal_147 rfl ?_
      refine zz_bipush (pc := 149) C (v := 41) (by decide) dL_isTerminal_149 ?_
      refine zz_icmp_ge (pc := 151) C (tgt := 204) dL_isTerminal_151 (by decide) (fun hc151 => ?_) (fun hc151 => ?_)
      · refine zz_iload (pc := 204) C dL_isTerminal_204 rfl ?_
        refine zz_if_eq (pc := 206) C (tgt := 228) dL_isTerminal_206 (by decide) (fun hc206 => ?_) (fun hc206 => ?_)
        · refine zz_iconst (pc := 228) C (v := 0) (by decide) dL_isTerminal_228 ?_
          exact zV.less (L' := [some (.ref x), some (.int (nI k9)), some (.int (nI a9)), some (.int (nI b9)), some (.int (zb (¬ zNot σ k9))), some (.int (σ 21 0)), some (.int (σ 22 0)), some (.int (nI g9)), some (.int (zb (g9 < 41 ∧ zIsIn σ (nI g9) (σ 3 k9) 41))), none]) ⟨rfl, rfl, rfl, rfl, rfl, rfl, rfl, rfl, rfl, trivial⟩ (zV.topK K229 ((zb_f (fun z => zb_eq.mp hc206 z.1)).symm))
        · refine zz_aload_n (pc := 209) C dL_isTerminal_209 rfl ?_
          refine zz_iload_n (pc := 210) C dL_isTerminal_210 rfl ?_
          refine zz_callV (pc := 211) C (q_session l D hC h1 hk h0) gL_isTerminal_X2_session rfl 1 (by decide +kernel) ⟨Nat.le_of_ble_eq_true rfl, Nat.le_of_ble_eq_true rfl⟩ hC.x (ci := 2) rfl rfl rfl dL_isTerminal_211 rfl (Nat.le_of_ble_eq_true rfl) rfl ⟨Nat.le_of_ble_eq_true rfl, Nat.le_of_ble_eq_true rfl⟩ ?_
          rintro v G9 ⟨rfl, rfl⟩
          refine zz_iload (pc := 214) C dL_isTerminal_214 rfl ?_
          refine zz_icmp_ne (pc := 216) C (tgt := 228) dL_isTerminal_216 (by decide) (fun hc216 => ?_) (fun hc216 => ?_)
          · refine zz_iconst (pc := 228) C (v := 0) (by decide) dL_isTerminal_228 ?_
            exact zV.less (L' := [some (.ref x), some (.int (nI k9)), some (.int (nI a9)), some (.int (nI b9)), some (.int (zb (¬ zNot σ k9))), some (.int (σ 21 0)), some (.int (σ 22 0)), some (.int (nI g9)), some (.int (zb (g9 < 41 ∧ zIsIn σ (nI g9) (σ 3 k9) 41))), none]) ⟨rfl, rfl, rfl, rfl, rfl, rfl, rfl, rfl, rfl, trivial⟩ (zV.topK K229 ((zb_f (fun z => hc216 z.2.1)).symm))
          · refine zz_iload (pc := 219) C dL_isTerminal_219 rfl ?_
            refine zz_if_eq (pc := 221) C (tgt := 228) dL_isTerminal_221 (by decide) (fun hc221 => ?_) (fun hc221 => ?_)
            · refine zz_iconst (pc := 228) C (v := 0) (by decide) dL_isTerminal_228 ?_
              exact zV.less (L' := [some (.ref x), some (.int (nI k9)), some (.int (nI a9)), some (.int (nI b9)), some (.int (zb (¬ zNot σ k9))), some (.int (σ 21 0)), some (.int (σ 22 0)), some (.int (nI g9)), some (.int (zb (g9 < 41 ∧ zIsIn σ (nI g9) (σ 3 k9) 41))), none]) ⟨rfl, rfl, rfl, rfl, rfl, rfl, rfl, rfl, rfl, trivial⟩ (zV.topK K229 ((zb_f (fun z => zb_eq.mp hc221 z.2.2)).symm))
            · refine zz_iconst (pc := 224) C (v := 1) (by decide) dL_isTerminal_224 ?_
              refine zz_goto (pc := 225) C (tgt := 229) dL_isTerminal_225 (by decide) ?_
              exact zV.less (L' := [some (.ref x), some (.int (nI k9)), some (.int (nI a9)), some (.int (nI b9)), some (.int (zb (¬ zNot σ k9))), some (.int (σ 21 0)), some (.int (σ 22 0)), some (.int (nI g9)), some (.int (zb (g9 < 41 ∧ zIsIn σ (nI g9) (σ 3 k9) 41))), none]) ⟨rfl, rfl, rfl, rfl, rfl, rfl, rfl, rfl, rfl, trivial⟩ (zV.topK K229 ((zb_t ⟨zbp hc206, Classical.not_not.mp hc216, (zbp hc221)⟩).symm))
      · exact absurd z41c hc151
    | succ n ih =>
      intro i hi hi1
      have K196 : zV p l e ({ frames := 12, cells := 20, slots := 120, locals := 340 } : Room) s m args below meth c D (zA G s.heap.size) 0 0 (zxZ below D G (fun v G9 => v = some (.int 1) ∧ zLq B x σ m0 G9) (fun _ => False) args s ({ frames := 12, cells := 20, slots := 120, locals := 340 } : Room)) G 196 [some (.ref x), some (.int (nI k9)), some (.int (nI a9)), some (.int (nI b9)), some (.int (zb (¬ zNot σ k9))), some (.int (σ 21 0)), some (.int (σ 22 0)), some (.int (nI g9)), some (.int (zb (g9 < 41 ∧ zIsIn σ (nI g9) (σ 3 k9) i))), some (.int (nI (i)))] [.int (zb (g9 < 41 ∧ zIsIn σ (nI g9) (σ 3 k9) (i + 1)))] := by
        refine zz_istore (pc := 196) C dL_isTerminal_196 (Nat.le_of_ble_eq_true rfl) ?_
        refine zV.less (L' := [some (.ref (x)), some (.int (nI k9)), some (.int (nI a9)), some (.int (nI b9)), some (.int (zb (¬ zNot σ k9))), some (.int (σ 21 0)), some (.int (σ 22 0)), some (.int (nI g9)), some (.int (zb (g9 < 41 ∧ zIsIn σ (nI g9) (σ 3 k9) (i + 1)))), some (.int (nI (i)))]) ⟨rfl, rfl, rfl, rfl, rfl, rfl, rfl, rfl, rfl, rfl, trivial⟩ ?_
        refine zz_iinc (pc := 198) C dL_isTerminal_198 rfl ?_
        refine zV.less (L' := [some (.ref (x)), some (.int (nI k9)), some (.int (nI a9)), some (.int (nI b9)), some (.int (zb (¬ zNot σ k9))), some (.int (σ 21 0)), some (.int (σ 22 0)), some (.int (nI g9)), some (.int (zb (g9 < 41 ∧ zIsIn σ (nI g9) (σ 3 k9) (i + 1)))), some (.int (nI (i + 1)))]) ⟨rfl, rfl, rfl, rfl, rfl, rfl, rfl, rfl, rfl, zvi (z1i i), trivial⟩ ?_
        refine zz_goto (pc := 201) C (tgt := 147) dL_isTerminal_201 (by decide) ?_
        exact ih (i + 1) (by omega) (by omega)
      refine zz_iload (pc := 147) C dL_isTerminal_147 rfl ?_
      refine zz_bipush (pc := 149) C (v := 41) (by decide) dL_isTerminal_149 ?_
      refine zz_icmp_ge (pc := 151) C (tgt := 204) dL_isTerminal_151 (by decide) (fun hc151 => ?_) (fun hc151 => ?_)
      · exact absurd hc151 (z41b (by omega))
      · refine zz_iload (pc := 154) C dL_isTerminal_154 rfl ?_
        refine zz_if_ne (pc := 156) C (tgt := 191) dL_isTerminal_156 (by decide) (fun hc156 => ?_) (fun hc156 => ?_)
        · refine zz_iconst (pc := 191) C (v := 1) (by decide) dL_isTerminal_191 ?_
          refine zz_goto (pc := 192) C (tgt := 196) dL_isTerminal_192 (by decide) ?_
          exact zV.less (L' := [some (.ref x), some (.int (nI k9)), some (.int (nI a9)), some (.int (nI b9)), some (.int (zb (¬ zNot σ k9))), some (.int (σ 21 0)), some (.int (σ 22 0)), some (.int (nI g9)), some (.int (zb (g9 < 41 ∧ zIsIn σ (nI g9) (σ 3 k9) i))), some (.int (nI (i)))]) ⟨rfl, rfl, rfl, rfl, rfl, rfl, rfl, rfl, rfl, rfl, trivial⟩ (zV.topK K196 ((zb_t ⟨(zb_ne.mp hc156).1, fun z => (zb_ne.mp hc156).2 (zAll_succ.mp z).1⟩).symm))
        · refine zz_iload (pc := 159) C dL_isTerminal_159 rfl ?_
          refine zz_bipush (pc := 161) C (v := 41) (by decide) dL_isTerminal_161 ?_
          refine zz_icmp_ge (pc := 163) C (tgt := 195) dL_isTerminal_163 (by decide) (fun hc163 => ?_) (fun hc163 => ?_)
          · refine zz_iconst (pc := 195) C (v := 0) (by decide) dL_isTerminal_195 ?_
            exact zV.less (L' := [some (.ref x), some (.int (nI k9)), some (.int (nI a9)), some (.int (nI b9)), some (.int (zb (¬ zNot σ k9))), some (.int (σ 21 0)), some (.int (σ 22 0)), some (.int (nI g9)), some (.int (zb (g9 < 41 ∧ zIsIn σ (nI g9) (σ 3 k9) i))), some (.int (nI (i)))]) ⟨rfl, rfl, rfl, rfl, rfl, rfl, rfl, rfl, rfl, rfl, trivial⟩ (zV.topK K196 ((zb_f (fun z => z41b z.1 hc163)).symm))
          · refine zz_aload_n (pc := 166) C dL_isTerminal_166 rfl ?_
            refine zz_iload (pc := 167) C dL_isTerminal_167 rfl ?_
            refine zz_iload (pc := 169) C dL_isTerminal_169 rfl ?_
            refine zz_callS (pc := 171) C (c_L_isMember l D hC (by omega) (by omega)) gL_isTerminal_L_isMember rfl 3 (by decide +kernel) ⟨Nat.le_of_ble_eq_true rfl, Nat.le_of_ble_eq_true rfl⟩ rfl dL_isTerminal_171 rfl (Nat.le_of_ble_eq_true rfl) rfl ⟨Nat.le_of_ble_eq_true rfl, Nat.le_of_ble_eq_true rfl⟩ ?_
            rintro v G9 ⟨rfl, rfl⟩
            refine zz_if_eq (pc := 174) C (tgt := 195) dL_isTerminal_174 (by decide) (fun hc174 => ?_) (fun hc174 => ?_)
            · refine zz_iconst (pc := 195) C (v := 0) (by decide) dL_isTerminal_195 ?_
              exact zV.less (L' := [some (.ref x), some (.int (nI k9)), some (.int (nI a9)), some (.int (nI b9)), some (.int (zb (¬ zNot σ k9))), some (.int (σ 21 0)), some (.int (σ 22 0)), some (.int (nI g9)), some (.int (zb (g9 < 41 ∧ zIsIn σ (nI g9) (σ 3 k9) i))), some (.int (nI (i)))]) ⟨rfl, rfl, rfl, rfl, rfl, rfl, rfl, rfl, rfl, rfl, trivial⟩ (zV.topK K196 ((zb_f (fun z => z.2 (zAll_succ.mpr ⟨Classical.not_not.mp (fun y => hc156 (zb_ne.mpr ⟨z.1, y⟩)), fun y => zb_eq.mp hc174 y.1⟩))).symm))
            · refine zz_aload_n (pc := 177) C dL_isTerminal_177 rfl ?_
              refine zz_iload (pc := 178) C dL_isTerminal_178 rfl ?_
              refine zz_callV (pc := 180) C (q_session l D hC (by omega) (by omega) (zbp hc174).1) gL_isTerminal_X2_session rfl 1 (by decide +kernel) ⟨Nat.le_of_ble_eq_true rfl, Nat.le_of_ble_eq_true rfl⟩ hC.x (ci := 2) rfl rfl rfl dL_isTerminal_180 rfl (Nat.le_of_ble_eq_true rfl) rfl ⟨Nat.le_of_ble_eq_true rfl, Nat.le_of_ble_eq_true rfl⟩ ?_
              rintro v G9 ⟨rfl, rfl⟩
              refine zz_aload_n (pc := 183) C dL_isTerminal_183 rfl ?_
              refine zz_iload_n (pc := 184) C dL_isTerminal_184 rfl ?_
              refine zz_callV (pc := 185) C (q_session l D hC h1 hk h0) gL_isTerminal_X2_session rfl 1 (by decide +kernel) ⟨Nat.le_of_ble_eq_true rfl, Nat.le_of_ble_eq_true rfl⟩ hC.x (ci := 2) rfl rfl rfl dL_isTerminal_185 rfl (Nat.le_of_ble_eq_true rfl) rfl ⟨Nat.le_of_ble_eq_true rfl, Nat.le_of_ble_eq_true rfl⟩ ?_
              rintro v G9 ⟨rfl, rfl⟩
              refine zz_icmp_ne (pc := 188) C (tgt := 195) dL_isTerminal_188 (by decide) (fun hc188 => ?_) (fun hc188 => ?_)
              · refine zz_iconst (pc := 195) C (v := 0) (by decide) dL_isTerminal_195 ?_
                exact zV.less (L' := [some (.ref x), some (.int (nI k9)), some (.int (nI a9)), some (.int (nI b9)), some (.int (zb (¬ zNot σ k9))), some (.int (σ 21 0)), some (.int (σ 22 0)), some (.int (nI g9)), some (.int (zb (g9 < 41 ∧ zIsIn σ (nI g9) (σ 3 k9) i))), some (.int (nI (i)))]) ⟨rfl, rfl, rfl, rfl, rfl, rfl, rfl, rfl, rfl, rfl, trivial⟩ (zV.topK K196 ((zb_f (fun z => z.2 (zAll_succ.mpr ⟨Classical.not_not.mp (fun y => hc156 (zb_ne.mpr ⟨z.1, y⟩)), fun y => hc188 y.2⟩))).symm))
              · refine zz_iconst (pc := 191) C (v := 1) (by decide) dL_isTerminal_191 ?_
                refine zz_goto (pc := 192) C (tgt := 196) dL_isTerminal_192 (by decide) ?_
                exact zV.less (L' := [some (.ref x), some (.int (nI k9)), some (.int (nI a9)), some (.int (nI b9)), some (.int (zb (¬ zNot σ k9))), some (.int (σ 21 0)), some (.int (σ 22 0)), some (.int (nI g9)), some (.int (zb (g9 < 41 ∧ zIsIn σ (nI g9) (σ 3 k9) i))), some (.int (nI (i)))]) ⟨rfl, rfl, rfl, rfl, rfl, rfl, rfl, rfl, rfl, rfl, trivial⟩ (zV.topK K196 ((zb_t ⟨zLt41 hg41 hc163, fun z => (zAll_succ.mp z).2 ⟨zbp hc174, Classical.not_not.mp hc188⟩⟩).symm))
  have K18 : zV p l e ({ frames := 12, cells := 20, slots := 120, locals := 340 } : Room) s m args below meth c D (zA G s.heap.size) 0 0 (zxZ below D G (fun v G9 => v = some (.int 1) ∧ zLq B x σ m0 G9) (fun _ => False) args s ({ frames := 12, cells := 20, slots := 120, locals := 340 } : Room)) G 18 [some (.ref x), some (.int (nI k9)), some (.int (nI a9)), some (.int (nI b9)), none, none, none, none, none, none] [.int (zb (¬ zNot σ k9))] := by
    refine zz_istore (pc := 18) C dL_isTerminal_18 (Nat.le_of_ble_eq_true rfl) ?_
    refine zV.less (L' := [some (.ref (x)), some (.int (nI k9)), some (.int (nI a9)), some (.int (nI b9)), some (.int (zb (¬ zNot σ k9))), none, none, none, none, none]) ⟨rfl, rfl, rfl, rfl, rfl, trivial⟩ ?_
    refine zz_aload_n (pc := 20) C dL_isTerminal_20 rfl ?_
    refine zz_callV (pc := 21) C (c_X2_terminalSession l D hC) gL_isTerminal_X2_terminalSession rfl 0 (by decide +kernel) ⟨Nat.le_of_ble_eq_true rfl, Nat.le_of_ble_eq_true rfl⟩ hC.x (ci := 2) rfl rfl rfl dL_isTerminal_21 rfl (Nat.le_of_ble_eq_true rfl) rfl ⟨Nat.le_of_ble_eq_true rfl, Nat.le_of_ble_eq_true rfl⟩ ?_
    rintro v G9 ⟨rfl, rfl⟩
    refine zz_istore (pc := 24) C dL_isTerminal_24 (Nat.le_of_ble_eq_true rfl) ?_
    refine zV.less (L' := [some (.ref (x)), some (.int (nI k9)), some (.int (nI a9)), some (.int (nI b9)), some (.int (zb (¬ zNot σ k9))), some (.int (σ 21 0)), none, none, none, none]) ⟨rfl, rfl, rfl, rfl, rfl, rfl, trivial⟩ ?_
    refine zz_aload_n (pc := 26) C dL_isTerminal_26 rfl ?_
    refine zz_callV (pc := 27) C (c_X2_foreground l D hC) gL_isTerminal_X2_foreground rfl 0 (by decide +kernel) ⟨Nat.le_of_ble_eq_true rfl, Nat.le_of_ble_eq_true rfl⟩ hC.x (ci := 2) rfl rfl rfl dL_isTerminal_27 rfl (Nat.le_of_ble_eq_true rfl) rfl ⟨Nat.le_of_ble_eq_true rfl, Nat.le_of_ble_eq_true rfl⟩ ?_
    rintro v G9 ⟨rfl, rfl⟩
    refine zz_istore (pc := 30) C dL_isTerminal_30 (Nat.le_of_ble_eq_true rfl) ?_
    refine zV.less (L' := [some (.ref (x)), some (.int (nI k9)), some (.int (nI a9)), some (.int (nI b9)), some (.int (zb (¬ zNot σ k9))), some (.int (σ 21 0)), some (.int (σ 22 0)), none, none, none]) ⟨rfl, rfl, rfl, rfl, rfl, rfl, rfl, trivial⟩ ?_
    refine zz_iload_n (pc := 32) C dL_isTerminal_32 rfl ?_
    refine zz_iconst (pc := 33) C (v := 4) (by decide) dL_isTerminal_33 ?_
    refine zz_irem (pc := 34) C (a := a9) (d := 4) dL_isTerminal_34 rfl rfl (by omega) (by decide) (by decide) ?_
    refine zz_iconst (pc := 35) C (v := 2) (by decide) dL_isTerminal_35 ?_
    refine zz_icmp_ge (pc := 36) C (tgt := 126) dL_isTerminal_36 (by decide) (fun hc36 => ?_) (fun hc36 => ?_)
    · refine zz_iload_n (pc := 126) C dL_isTerminal_126 rfl ?_
      refine zz_iconst (pc := 127) C (v := 4) (by decide) dL_isTerminal_127 ?_
      refine zz_irem (pc := 128) C (a := a9) (d := 4) dL_isTerminal_128 rfl rfl (by omega) (by decide) (by decide) ?_
      refine zz_iconst (pc := 129) C (v := 2) (by decide) dL_isTerminal_129 ?_
      refine zz_icmp_ne (pc := 130) C (tgt := 290) dL_isTerminal_130 (by decide) (fun hc130 => ?_) (fun hc130 => ?_)
      · exact absurd (by rw [hm]; rfl) hc130
      · refine zz_iconst (pc := 133) C (v := 1) (by decide) dL_isTerminal_133 ?_
        refine zz_iload_n (pc := 134) C dL_isTerminal_134 rfl ?_
        refine zz_bipush (pc := 135) C (v := 41) (by decide) dL_isTerminal_135 ?_
        refine zz_irem (pc := 137) C (a := b9) (d := 41) dL_isTerminal_137 rfl rfl (by omega) (by decide) (by decide) ?_
        refine zz_iadd (pc := 138) C dL_isTerminal_138 ?_
        refine zz_istore (pc := 139) C dL_isTerminal_139 (Nat.le_of_ble_eq_true rfl) ?_
        refine zV.less (L' := [some (.ref (x)), some (.int (nI k9)), some (.int (nI a9)), some (.int (nI b9)), some (.int (zb (¬ zNot σ k9))), some (.int (σ 21 0)), some (.int (σ 22 0)), some (.int (nI g9)), none, none]) ⟨rfl, rfl, rfl, rfl, rfl, rfl, rfl, zvi eg, trivial⟩ ?_
        refine zz_iconst (pc := 141) C (v := 0) (by decide) dL_isTerminal_141 ?_
        refine zz_istore (pc := 142) C dL_isTerminal_142 (Nat.le_of_ble_eq_true rfl) ?_
        refine zV.less (L' := [some (.ref (x)), some (.int (nI k9)), some (.int (nI a9)), some (.int (nI b9)), some (.int (zb (¬ zNot σ k9))), some (.int (σ 21 0)), some (.int (σ 22 0)), some (.int (nI g9)), some (.int (zb (g9 < 41 ∧ zIsIn σ (nI g9) (σ 3 k9) 1))), none]) ⟨rfl, rfl, rfl, rfl, rfl, rfl, rfl, rfl, zvi (zb_f hs).symm, trivial⟩ ?_
        refine zz_iconst (pc := 144) C (v := 1) (by decide) dL_isTerminal_144 ?_
        refine zz_istore (pc := 145) C dL_isTerminal_145 (Nat.le_of_ble_eq_true rfl) ?_
        refine zV.less (L' := [some (.ref (x)), some (.int (nI k9)), some (.int (nI a9)), some (.int (nI b9)), some (.int (zb (¬ zNot σ k9))), some (.int (σ 21 0)), some (.int (σ 22 0)), some (.int (nI g9)), some (.int (zb (g9 < 41 ∧ zIsIn σ (nI g9) (σ 3 k9) 1))), some (.int (nI 1))]) ⟨rfl, rfl, rfl, rfl, rfl, rfl, rfl, rfl, rfl, rfl, trivial⟩ ?_
        exact loop 40 1 rfl (by omega)
    · exact absurd (zM4le (by omega) (Nat.mod_lt _ (by decide))) hc36
  refine zz_iload_n (pc := 0) C dL_isTerminal_0 rfl ?_
  refine zz_iconst (pc := 1) C (v := 1) (by decide) dL_isTerminal_1 ?_
  refine zz_icmp_le (pc := 2) C (tgt := 17) dL_isTerminal_2 (by decide) (fun hc2 => ?_) (fun hc2 => ?_)
  · refine zz_iconst (pc := 17) C (v := 0) (by decide) dL_isTerminal_17 ?_
    exact zV.less (L' := [some (.ref x), some (.int (nI k9)), some (.int (nI a9)), some (.int (nI b9)), none, none, none, none, none, none]) ⟨rfl, rfl, rfl, rfl, trivial⟩ (zV.topK K18 ((zb_f (fun z => z (Or.inl (zLe1 h1 hk hc2)))).symm))
  · refine zz_aload_n (pc := 5) C dL_isTerminal_5 rfl ?_
    refine zz_iload_n (pc := 6) C dL_isTerminal_6 rfl ?_
    refine zz_callV (pc := 7) C (q_state l D hC h1 hk h0) gL_isTerminal_X2_state rfl 1 (by decide +kernel) ⟨Nat.le_of_ble_eq_true rfl, Nat.le_of_ble_eq_true rfl⟩ hC.x (ci := 2) rfl rfl rfl dL_isTerminal_7 rfl (Nat.le_of_ble_eq_true rfl) rfl ⟨Nat.le_of_ble_eq_true rfl, Nat.le_of_ble_eq_true rfl⟩ ?_
    rintro v G9 ⟨rfl, rfl⟩
    refine zz_if_ne (pc := 10) C (tgt := 17) dL_isTerminal_10 (by decide) (fun hc10 => ?_) (fun hc10 => ?_)
    · refine zz_iconst (pc := 17) C (v := 0) (by decide) dL_isTerminal_17 ?_
      exact zV.less (L' := [some (.ref x), some (.int (nI k9)), some (.int (nI a9)), some (.int (nI b9)), none, none, none, none, none, none]) ⟨rfl, rfl, rfl, rfl, trivial⟩ (zV.topK K18 ((zb_f (fun z => z (Or.inr (fun y => hc10 (zCon_0.mpr y))))).symm))
    · refine zz_iconst (pc := 13) C (v := 1) (by decide) dL_isTerminal_13 ?_
      refine zz_goto (pc := 14) C (tgt := 18) dL_isTerminal_14 (by decide) ?_
      exact zV.less (L' := [some (.ref x), some (.int (nI k9)), some (.int (nI a9)), some (.int (nI b9)), none, none, none, none, none, none]) ⟨rfl, rfl, rfl, rfl, trivial⟩ (zV.topK K18 ((zb_t (show ¬ zNot σ k9 from fun z => z.elim (fun y => hc2 (by rw [y]; decide)) (fun y => y (zCon_0.mp (Classical.not_not.mp hc10))))).symm))
