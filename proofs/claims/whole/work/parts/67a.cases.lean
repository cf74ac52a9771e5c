theorem zRmU {cells a m0 T : Nat} (h : cells + (8 + (16384 - zK m0)) ≤ 601024) (ha : a ≤ 5 + zW m0 T) : cells + a + 0 ≤ 601024 := by
  have := zRmC h ha (Nat.le_of_ble_eq_true rfl)
  omega
theorem zRmV {slots a m0 T : Nat} (h : slots + (48 + 4 * (16384 - zK m0)) ≤ 7293033) (ha : a ≤ 40 + 4 * zW m0 T) : slots + a + 0 ≤ 7293033 := by
  have := zRmS h ha (Nat.le_of_ble_eq_true rfl)
  omega
theorem zRoom0 {a n : Nat} (h : a ≤ n) : a + 0 ≤ n := h
set_option maxHeartbeats 4000000 in
set_option maxRecDepth 100000 in
theorem lw_c0 {p : Program} {l : Launch} {e : Env} {s : State} {m : MethodId} {below : List Frame} {meth : Method} {c : Code} {D : va_G} {b Ln : Nat} {xs : Nat → Int32} {Q : State → Prop} (hl : l.stackTraces = false) (K : zLw p s m meth c D b Ln xs) {G : zG} {x y o j m0 cells slots : Nat} {σ : zS} (hI : zInv G x y o σ m0) (h1 : vp_in (nI j + 1) Ln) (h2 : vp_in (nI j + 2) Ln) (h3 : vp_in (nI j + 3) Ln) (hr1 : cells + (8 + (16384 - zK m0)) ≤ 601024) (hr2 : slots + (48 + 4 * (16384 - zK m0)) ≤ 7293033)
    (kk : ∀ (G' : zG) (σ' : zS) (m' : Nat), zInv G' x y o σ' m' → m0 ≤ m' → zV p l e room_1 s m #[Value.ref b] below meth c D (lA s) (cells + (8 + (zK m' - zK m0))) (slots + (48 + 4 * (zK m' - zK m0))) Q G' 1886 (lL b x y o (nI j)) []) : zV p l e room_1 s m #[Value.ref b] below meth c D (lA s) cells slots Q G 172 (lL b x y o (nI j)) [] := by
  obtain ⟨C, hX, hbl, h8⟩ := K
  have hbA : ¬ lA s b := Nat.not_le.mpr hbl
  obtain ⟨hW, ⟨tb, ev, A, hC⟩, ⟨ma, th, hM⟩, w, ho⟩ := hI
  obtain ⟨a1, e1⟩ : ∃ z, xs (nI j + 1).toNatClampNeg = z := ⟨_, rfl⟩
  refine zz_aload_n (pc := 172) C dL_law_172 rfl ?_
  refine zz_aload_n (pc := 173) C dL_law_173 rfl ?_
  refine zz_iload (pc := 174) C dL_law_174 rfl ?_
  refine zz_iconst (pc := 176) C (v := 1) (by decide) dL_law_176 ?_
  refine zz_iadd (pc := 177) C dL_law_177 ?_
  refine zz_sld (pc := 178) C hX hbl hbA h1 e1 dL_law_178 ?_
  refine zz_aload_n (pc := 179) C dL_law_179 rfl ?_
  refine zzx_callSW (pc := 180) C h8 (c_L_fork l hl D (G := G) (x9 := a1) hC hW ho) gL_law_L_fork rfl 3 (by decide +kernel) ⟨Nat.le_of_ble_eq_true rfl, Nat.le_of_ble_eq_true rfl⟩ rfl dL_law_180 rfl (Nat.le_of_ble_eq_true rfl) rfl ⟨zRmC (T := 0) hr1 (Nat.le_add_right 3 _) (Nat.le_of_ble_eq_true rfl), zRmS (T := 0) hr2 (Nat.le_add_right 40 _) (Nat.le_of_ble_eq_true rfl)⟩ (fun E hE => hE.elim) ?_
  rintro v G9 ⟨rfl, ⟨A9, hC9⟩, ⟨w9, ho9, hw9⟩, hk2⟩
  obtain ⟨r, hR, hag, hrth, hring⟩ := hM.mv hk2
  refine zz_istore (pc := 183) C dL_law_183 (Nat.le_of_ble_eq_true rfl) ?_
  refine zz_aload_n (pc := 185) C dL_law_185 rfl ?_
  refine zz_aload_n (pc := 186) C dL_law_186 rfl ?_
  refine zz_iload (pc := 187) C dL_law_187 rfl ?_
  refine zz_iconst (pc := 189) C (v := 1) (by decide) dL_law_189 ?_
  refine zz_iadd (pc := 190) C dL_law_190 ?_
  refine zz_sld (pc := 191) C hX hbl hbA h1 e1 dL_law_191 ?_
  have hq1 := zRmU (a := ({ frames := 8, cells := 3, slots := 40, locals := 136 } : Room).cells) hr1 (T := 0) (Nat.le_trans (Nat.le_of_ble_eq_true (n := 3) (m := 5) rfl) (Nat.le_add_right 5 _))
  have hq2 := zRmV (a := ({ frames := 8, cells := 3, slots := 40, locals := 136 } : Room).slots) hr2 (T := 0) (Nat.le_trans (Nat.le_of_ble_eq_true (n := 40) (m := 40) rfl) (Nat.le_add_right 40 _))
  refine zz_callV (pc := 192) C (c_X3_fork l D (σ := σ) (x := a1) hR hag hring hW.z) gL_law_X3_fork rfl 1 (by decide +kernel) ⟨Nat.le_of_ble_eq_true rfl, Nat.le_of_ble_eq_true rfl⟩ hR.2.1 (ci := 3) rfl rfl rfl dL_law_192 rfl (Nat.le_of_ble_eq_true rfl) rfl ⟨hq1, hq2⟩ ?_
  rintro v G10 ⟨rfl, hM10⟩
  obtain ⟨r10, hR10, hag10, hth10, hring10⟩ := id hM10
  refine zz_istore (pc := 195) C dL_law_195 (Nat.le_of_ble_eq_true rfl) ?_
  refine zz_aload_n (pc := 197) C dL_law_197 rfl ?_
  refine zz_callV (pc := 198) C (c_X3_thrown l D hR10) gL_law_X3_thrown rfl 0 (by decide +kernel) ⟨Nat.le_of_ble_eq_true rfl, Nat.le_of_ble_eq_true rfl⟩ hR10.2.1 (ci := 3) rfl rfl rfl dL_law_198 rfl (Nat.le_of_ble_eq_true rfl) rfl ⟨zRoom0 hq1, zRoom0 hq2⟩ ?_
  rintro v G11 ⟨rfl, rfl⟩
  rw [hth10]
  refine zz_iload (pc := 201) C dL_law_201 rfl ?_
  refine zz_icmp_eq (pc := 203) C (tgt := 208) dL_law_203 (by decide) (fun _ => ?_) (fun h => absurd rfl h)
  refine zz_iload (pc := 208) C dL_law_208 rfl ?_
  refine zz_if_ne (pc := 210) C (tgt := 225) dL_law_210 (by decide) (fun _ => ?_) (fun hcz => ?_)
  · refine zV.less (L' := lL b x y o (nI j)) ⟨rfl, rfl, rfl, rfl, rfl, trivial⟩ ?_
    refine zz_goto (pc := 225) C (tgt := 1886) dL_law_225 (by decide) ?_
    exact zV.widen (zLe3 (Nat.le_trans (Nat.le_of_ble_eq_true (n := 3) (m := 8) rfl) (Nat.le_add_right 8 _)) rfl rfl) (zLe3 (Nat.le_trans (Nat.le_of_ble_eq_true (n := 40) (m := 48) rfl) (Nat.le_add_right 48 _)) rfl rfl) (kk _ _ (if zE2 (¬ zHere σ a1) (¬ zRunN σ (pn a1) ∨ zFreeV σ = -1) = 0 then m0 else m0) (zInv_of (zIfW (fun z => zk_fork hW  z) hW) hC9 ho9 hM10) (Nat.le_of_eq (ite_self _).symm))
  · skip
    refine zz_aload_n (pc := 213) C dL_law_213 rfl ?_
    refine zz_iconst (pc := 214) C (v := 0) (by decide) dL_law_214 ?_
    refine zz_lald (pc := 215) C dL_law_215 (n := 1) (hM10.fr o 3 _ ho9 (by decide)) (by unfold vp_in; decide) ?_
    refine zz_iload (pc := 216) C dL_law_216 rfl ?_
    refine zz_i2l (pc := 218) C dL_law_218 ?_
    refine zz_lcmp (pc := 219) C dL_law_219 ?_
    refine zz_if_eq (pc := 220) C (tgt := 225) dL_law_220 (by decide) (fun _ => ?_) (fun h => absurd (zCmp_i hw9 (Classical.not_not.mp hcz)) h)
    refine zV.less (L' := lL b x y o (nI j)) ⟨rfl, rfl, rfl, rfl, rfl, trivial⟩ ?_
    refine zz_goto (pc := 225) C (tgt := 1886) dL_law_225 (by decide) ?_
    exact zV.widen (zLe3 (Nat.le_trans (Nat.le_of_ble_eq_true (n := 3) (m := 8) rfl) (Nat.le_add_right 8 _)) rfl rfl) (zLe3 (Nat.le_trans (Nat.le_of_ble_eq_true (n := 40) (m := 48) rfl) (Nat.le_add_right 48 _)) rfl rfl) (kk _ _ (if zE2 (¬ zHere σ a1) (¬ zRunN σ (pn a1) ∨ zFreeV σ = -1) = 0 then m0 else m0) (zInv_of (zIfW (fun z => zk_fork hW  z) hW) hC9 ho9 hM10) (Nat.le_of_eq (ite_self _).symm))
set_option maxHeartbeats 4000000 in
set_option maxRecDepth 100000 in
theorem lw_c1 {p : Program} {l : Launch} {e : Env} {s : State} {m : MethodId} {below : List Frame} {meth : Method} {c : Code} {D : va_G} {b Ln : Nat} {xs : Nat → Int32} {Q : State → Prop} (hl : l.stackTraces = false) (K : zLw p s m meth c D b Ln xs) {G : zG} {x y o j m0 cells slots : Nat} {σ : zS} (hI : zInv G x y o σ m0) (h1 : vp_in (nI j + 1) Ln) (h2 : vp_in (nI j + 2) Ln) (h3 : vp_in (nI j + 3) Ln) (hr1 : cells + (8 + (16384 - zK m0)) ≤ 601024) (hr2 : slots + (48 + 4 * (16384 - zK m0)) ≤ 7293033)
    (kk : ∀ (G' : zG) (σ' : zS) (m' : Nat), zInv G' x y o σ' m' → m0 ≤ m' → zV p l e room_1 s m #[Value.ref b] below meth c D (lA s) (cells + (8 + (zK m' - zK m0))) (slots + (48 + 4 * (zK m' - zK m0))) Q G' 1886 (lL b x y o (nI j)) []) : zV p l e room_1 s m #[Value.ref b] below meth c D (lA s) cells slots Q G 228 (lL b x y o (nI j)) [] := by
  obtain ⟨C, hX, hbl, h8⟩ := K
  have hbA : ¬ lA s b := Nat.not_le.mpr hbl
  obtain ⟨hW, ⟨tb, ev, A, hC⟩, ⟨ma, th, hM⟩, w, ho⟩ := hI
  obtain ⟨a1, e1⟩ : ∃ z, xs (nI j + 1).toNatClampNeg = z := ⟨_, rfl⟩
  refine zz_aload_n (pc := 228) C dL_law_228 rfl ?_
  refine zz_aload_n (pc := 229) C dL_law_229 rfl ?_
  refine zz_iload (pc := 230) C dL_law_230 rfl ?_
  refine zz_iconst (pc := 232) C (v := 1) (by decide) dL_law_232 ?_
  refine zz_iadd (pc := 233) C dL_law_233 ?_
  refine zz_sld (pc := 234) C hX hbl hbA h1 e1 dL_law_234 ?_
  refine zz_aload_n (pc := 235) C dL_law_235 rfl ?_
  refine zzx_callSW (pc := 236) C h8 (c_L_exec l hl D (G := G) (x9 := a1) hC  ho) gL_law_L_exec rfl 3 (by decide +kernel) ⟨Nat.le_of_ble_eq_true rfl, Nat.le_of_ble_eq_true rfl⟩ rfl dL_law_236 rfl (Nat.le_of_ble_eq_true rfl) rfl ⟨zRmC (T := 0) hr1 (Nat.le_add_right 2 _) (Nat.le_of_ble_eq_true rfl), zRmS (T := 0) hr2 (Nat.le_add_right 12 _) (Nat.le_of_ble_eq_true rfl)⟩ (fun E hE => hE.elim) ?_
  rintro v G9 ⟨rfl, ⟨A9, hC9⟩, ⟨w9, ho9, hw9⟩, hk2⟩
  obtain ⟨r, hR, hag, hrth, hring⟩ := hM.mv hk2
  refine zz_istore (pc := 239) C dL_law_239 (Nat.le_of_ble_eq_true rfl) ?_
  refine zz_aload_n (pc := 241) C dL_law_241 rfl ?_
  refine zz_aload_n (pc := 242) C dL_law_242 rfl ?_
  refine zz_iload (pc := 243) C dL_law_243 rfl ?_
  refine zz_iconst (pc := 245) C (v := 1) (by decide) dL_law_245 ?_
  refine zz_iadd (pc := 246) C dL_law_246 ?_
  refine zz_sld (pc := 247) C hX hbl hbA h1 e1 dL_law_247 ?_
  have hq1 := zRmU (a := ({ frames := 8, cells := 2, slots := 12, locals := 134 } : Room).cells) hr1 (T := 0) (Nat.le_trans (Nat.le_of_ble_eq_true (n := 2) (m := 5) rfl) (Nat.le_add_right 5 _))
  have hq2 := zRmV (a := ({ frames := 8, cells := 2, slots := 12, locals := 134 } : Room).slots) hr2 (T := 0) (Nat.le_trans (Nat.le_of_ble_eq_true (n := 12) (m := 40) rfl) (Nat.le_add_right 40 _))
  refine zz_callV (pc := 248) C (c_X3_exec l D (σ := σ) (x := a1) hR hag hring ) gL_law_X3_exec rfl 1 (by decide +kernel) ⟨Nat.le_of_ble_eq_true rfl, Nat.le_of_ble_eq_true rfl⟩ hR.2.1 (ci := 3) rfl rfl rfl dL_law_248 rfl (Nat.le_of_ble_eq_true rfl) rfl ⟨hq1, hq2⟩ ?_
  rintro v G10 ⟨rfl, hM10⟩
  obtain ⟨r10, hR10, hag10, hth10, hring10⟩ := id hM10
  refine zz_istore (pc := 251) C dL_law_251 (Nat.le_of_ble_eq_true rfl) ?_
  refine zz_aload_n (pc := 253) C dL_law_253 rfl ?_
  refine zz_callV (pc := 254) C (c_X3_thrown l D hR10) gL_law_X3_thrown rfl 0 (by decide +kernel) ⟨Nat.le_of_ble_eq_true rfl, Nat.le_of_ble_eq_true rfl⟩ hR10.2.1 (ci := 3) rfl rfl rfl dL_law_254 rfl (Nat.le_of_ble_eq_true rfl) rfl ⟨zRoom0 hq1, zRoom0 hq2⟩ ?_
  rintro v G11 ⟨rfl, rfl⟩
  rw [hth10]
  refine zz_iload (pc := 257) C dL_law_257 rfl ?_
  refine zz_icmp_eq (pc := 259) C (tgt := 264) dL_law_259 (by decide) (fun _ => ?_) (fun h => absurd rfl h)
  refine zz_iload (pc := 264) C dL_law_264 rfl ?_
  refine zz_if_ne (pc := 266) C (tgt := 281) dL_law_266 (by decide) (fun _ => ?_) (fun hcz => ?_)
  · refine zV.less (L' := lL b x y o (nI j)) ⟨rfl, rfl, rfl, rfl, rfl, trivial⟩ ?_
    refine zz_goto (pc := 281) C (tgt := 1886) dL_law_281 (by decide) ?_
    exact zV.widen (zLe3 (Nat.le_trans (Nat.le_of_ble_eq_true (n := 2) (m := 8) rfl) (Nat.le_add_right 8 _)) rfl rfl) (zLe3 (Nat.le_trans (Nat.le_of_ble_eq_true (n := 12) (m := 48) rfl) (Nat.le_add_right 48 _)) rfl rfl) (kk _ _ (if zE2 (¬ zHere σ a1) (zNot σ (pn a1)) = 0 then m0 else m0) (zInv_of (zIfW (fun z => zk_exec hW  z) hW) hC9 ho9 hM10) (Nat.le_of_eq (ite_self _).symm))
  · skip
    refine zz_aload_n (pc := 269) C dL_law_269 rfl ?_
    refine zz_iconst (pc := 270) C (v := 0) (by decide) dL_law_270 ?_
    refine zz_lald (pc := 271) C dL_law_271 (n := 1) (hM10.fr o 3 _ ho9 (by decide)) (by unfold vp_in; decide) ?_
    refine zz_iload (pc := 272) C dL_law_272 rfl ?_
    refine zz_i2l (pc := 274) C dL_law_274 ?_
    refine zz_lcmp (pc := 275) C dL_law_275 ?_
    refine zz_if_eq (pc := 276) C (tgt := 281) dL_law_276 (by decide) (fun _ => ?_) (fun h => absurd (zCmp_i hw9 (Classical.not_not.mp hcz)) h)
    refine zV.less (L' := lL b x y o (nI j)) ⟨rfl, rfl, rfl, rfl, rfl, trivial⟩ ?_
    refine zz_goto (pc := 281) C (tgt := 1886) dL_law_281 (by decide) ?_
    exact zV.widen (zLe3 (Nat.le_trans (Nat.le_of_ble_eq_true (n := 2) (m := 8) rfl) (Nat.le_add_right 8 _)) rfl rfl) (zLe3 (Nat.le_trans (Nat.le_of_ble_eq_true (n := 12) (m := 48) rfl) (Nat.le_add_right 48 _)) rfl rfl) (kk _ _ (if zE2 (¬ zHere σ a1) (zNot σ (pn a1)) = 0 then m0 else m0) (zInv_of (zIfW (fun z => zk_exec hW  z) hW) hC9 ho9 hM10) (Nat.le_of_eq (ite_self _).symm))
set_option maxHeartbeats 4000000 in
set_option maxRecDepth 100000 in
theorem lw_c2 {p : Program} {l : Launch} {e : Env} {s : State} {m : MethodId} {below : List Frame} {meth : Method} {c : Code} {D : va_G} {b Ln : Nat} {xs : Nat → Int32} {Q : State → Prop} (hl : l.stackTraces = false) (K : zLw p s m meth c D b Ln xs) {G : zG} {x y o j m0 cells slots : Nat} {σ : zS} (hI : zInv G x y o σ m0) (h1 : vp_in (nI j + 1) Ln) (h2 : vp_in (nI j + 2) Ln) (h3 : vp_in (nI j + 3) Ln) (hr1 : cells + (8 + (16384 - zK m0)) ≤ 601024) (hr2 : slots + (48 + 4 * (16384 - zK m0)) ≤ 7293033)
    (kk : ∀ (G' : zG) (σ' : zS) (m' : Nat), zInv G' x y o σ' m' → m0 ≤ m' → zV p l e room_1 s m #[Value.ref b] below meth c D (lA s) (cells + (8 + (zK m' - zK m0))) (slots + (48 + 4 * (zK m' - zK m0))) Q G' 1886 (lL b x y o (nI j)) []) : zV p l e room_1 s m #[Value.ref b] below meth c D (lA s) cells slots Q G 284 (lL b x y o (nI j)) [] := by
  obtain ⟨C, hX, hbl, h8⟩ := K
  have hbA : ¬ lA s b := Nat.not_le.mpr hbl
  obtain ⟨hW, ⟨tb, ev, A, hC⟩, ⟨ma, th, hM⟩, w, ho⟩ := hI
  obtain ⟨a1, e1⟩ : ∃ z, xs (nI j + 1).toNatClampNeg = z := ⟨_, rfl⟩
  obtain ⟨a2, e2⟩ : ∃ z, xs (nI j + 2).toNatClampNeg = z := ⟨_, rfl⟩
  obtain ⟨N, hrd, hNw, hNm⟩ := zPick (TH := zE3 (¬ zHere σ a1) (a2 < 0 ∨ (255 : Int32) < a2) (zNot σ (pn a1))) (X := zTerm (σ, []) (pn a1) 0 a2) (m0 := m0) (fun z => zk_exit hW z)
  refine zz_aload_n (pc := 284) C dL_law_284 rfl ?_
  refine zz_aload_n (pc := 285) C dL_law_285 rfl ?_
  refine zz_iload (pc := 286) C dL_law_286 rfl ?_
  refine zz_iconst (pc := 288) C (v := 1) (by decide) dL_law_288 ?_
  refine zz_iadd (pc := 289) C dL_law_289 ?_
  refine zz_sld (pc := 290) C hX hbl hbA h1 e1 dL_law_290 ?_
  refine zz_aload_n (pc := 291) C dL_law_291 rfl ?_
  refine zz_iload (pc := 292) C dL_law_292 rfl ?_
  refine zz_iconst (pc := 294) C (v := 2) (by decide) dL_law_294 ?_
  refine zz_iadd (pc := 295) C dL_law_295 ?_
  refine zz_sld (pc := 296) C hX hbl hbA h2 e2 dL_law_296 ?_
  refine zzx_callSW (pc := 297) C h8 (c_L_exit l hl D (G := G) (x9 := a1) (c9 := a2) (X := zTerm (σ, []) (pn a1) 0 a2) (N := N) hC hW rfl hrd ho) gL_law_L_exit rfl 3 (by decide +kernel) ⟨Nat.le_of_ble_eq_true rfl, Nat.le_of_ble_eq_true rfl⟩ rfl dL_law_297 rfl (Nat.le_of_ble_eq_true rfl) rfl ⟨zRmC hr1 (Nat.le_refl _) (Nat.le_of_ble_eq_true rfl), zRmS hr2 (Nat.le_refl _) (Nat.le_of_ble_eq_true rfl)⟩ (fun E hE => hE.elim) ?_
  rintro v G9 ⟨rfl, ⟨A9, hC9⟩, ⟨w9, ho9, hw9⟩, hk2⟩
  obtain ⟨r, hR, hag, hrth, hring⟩ := hM.mv hk2
  refine zz_istore (pc := 300) C dL_law_300 (Nat.le_of_ble_eq_true rfl) ?_
  refine zz_aload_n (pc := 302) C dL_law_302 rfl ?_
  refine zz_aload_n (pc := 303) C dL_law_303 rfl ?_
  refine zz_iload (pc := 304) C dL_law_304 rfl ?_
  refine zz_iconst (pc := 306) C (v := 1) (by decide) dL_law_306 ?_
  refine zz_iadd (pc := 307) C dL_law_307 ?_
  refine zz_sld (pc := 308) C hX hbl hbA h1 e1 dL_law_308 ?_
  refine zz_aload_n (pc := 309) C dL_law_309 rfl ?_
  refine zz_iload (pc := 310) C dL_law_310 rfl ?_
  refine zz_iconst (pc := 312) C (v := 2) (by decide) dL_law_312 ?_
  refine zz_iadd (pc := 313) C dL_law_313 ?_
  refine zz_sld (pc := 314) C hX hbl hbA h2 e2 dL_law_314 ?_
  have hq1 := zRmU (a := (zRmX 10 252 m0 (zCount N (zTerm (σ, []) (pn a1) 0 a2).1 (zTerm (σ, []) (pn a1) 0 a2).2) 3).cells) hr1 (Nat.add_le_add (Nat.le_of_ble_eq_true rfl) (Nat.le_refl _))
  have hq2 := zRmV (a := (zRmX 10 252 m0 (zCount N (zTerm (σ, []) (pn a1) 0 a2).1 (zTerm (σ, []) (pn a1) 0 a2).2) 3).slots) hr2 (Nat.add_le_add (Nat.le_of_ble_eq_true rfl) (Nat.le_refl _))
  refine zz_callV (pc := 315) C (c_X3_exit l D (σ := σ) (x := a1) (c9 := a2) (N := N) hR hag hring (fun hh hn => hW.lv hh.2.2 hn) (fun z => (hrd z).x)) gL_law_X3_exit rfl 2 (by decide +kernel) ⟨Nat.le_of_ble_eq_true rfl, Nat.le_of_ble_eq_true rfl⟩ hR.2.1 (ci := 3) rfl rfl rfl dL_law_315 rfl (Nat.le_of_ble_eq_true rfl) rfl ⟨hq1, hq2⟩ ?_
  rintro v G10 ⟨rfl, hM10⟩
  obtain ⟨r10, hR10, hag10, hth10, hring10⟩ := id hM10
  refine zz_aload_n (pc := 318) C dL_law_318 rfl ?_
  refine zz_callV (pc := 319) C (c_X3_thrown l D hR10) gL_law_X3_thrown rfl 0 (by decide +kernel) ⟨Nat.le_of_ble_eq_true rfl, Nat.le_of_ble_eq_true rfl⟩ hR10.2.1 (ci := 3) rfl rfl rfl dL_law_319 rfl (Nat.le_of_ble_eq_true rfl) rfl ⟨zRoom0 hq1, zRoom0 hq2⟩ ?_
  rintro v G11 ⟨rfl, rfl⟩
  rw [hth10]
  refine zz_iload (pc := 322) C dL_law_322 rfl ?_
  refine zz_icmp_eq (pc := 324) C (tgt := 329) dL_law_324 (by decide) (fun _ => ?_) (fun h => absurd rfl h)
  refine zV.less (L' := lL b x y o (nI j)) ⟨rfl, rfl, rfl, rfl, rfl, trivial⟩ ?_
  refine zz_goto (pc := 329) C (tgt := 1886) dL_law_329 (by decide) ?_
  exact zV.widen (zLe3 (Nat.add_le_add (Nat.le_of_ble_eq_true rfl) (Nat.le_of_eq hNw)) rfl rfl) (zLe3 (Nat.add_le_add (Nat.le_of_ble_eq_true rfl) (Nat.mul_le_mul_left 4 (Nat.le_of_eq hNw))) rfl rfl) (kk _ _ (if zE3 (¬ zHere σ a1) (a2 < 0 ∨ (255 : Int32) < a2) (zNot σ (pn a1)) = 0 then max m0 (zCount N (zTerm (σ, []) (pn a1) 0 a2).1 (zTerm (σ, []) (pn a1) 0 a2).2) else m0) (zInv_of (zIfW (fun z => (hrd z).wf) hW) hC9 ho9 hM10) hNm)
set_option maxHeartbeats 4000000 in
set_option maxRecDepth 100000 in
theorem lw_c3 {p : Program} {l : Launch} {e : Env} {s : State} {m : MethodId} {below : List Frame} {meth : Method} {c : Code} {D : va_G} {b Ln : Nat} {xs : Nat → Int32} {Q : State → Prop} (hl : l.stackTraces = false) (K : zLw p s m meth c D b Ln xs) {G : zG} {x y o j m0 cells slots : Nat} {σ : zS} (hI : zInv G x y o σ m0) (h1 : vp_in (nI j + 1) Ln) (h2 : vp_in (nI j + 2) Ln) (h3 : vp_in (nI j + 3) Ln) (hr1 : cells + (8 + (16384 - zK m0)) ≤ 601024) (hr2 : slots + (48 + 4 * (16384 - zK m0)) ≤ 7293033)
    (kk : ∀ (G' : zG) (σ' : zS) (m' : Nat), zInv G' x y o σ' m' → m0 ≤ m' → zV p l e room_1 s m #[Value.ref b] below meth c D (lA s) (cells + (8 + (zK m' - zK m0))) (slots + (48 + 4 * (zK m' - zK m0))) Q G' 1886 (lL b x y o (nI j)) []) : zV p l e room_1 s m #[Value.ref b] below meth c D (lA s) cells slots Q G 332 (lL b x y o (nI j)) [] := by
  obtain ⟨C, hX, hbl, h8⟩ := K
  have hbA : ¬ lA s b := Nat.not_le.mpr hbl
  obtain ⟨hW, ⟨tb, ev, A, hC⟩, ⟨ma, th, hM⟩, w, ho⟩ := hI
  obtain ⟨a1, e1⟩ : ∃ z, xs (nI j + 1).toNatClampNeg = z := ⟨_, rfl⟩
  obtain ⟨a2, e2⟩ : ∃ z, xs (nI j + 2).toNatClampNeg = z := ⟨_, rfl⟩
  obtain ⟨f2, ef2⟩ : ∃ f, (if a2 = 0 then (0 : Int32) else 1) = f := ⟨_, rfl⟩
  have hf2 := zFl01 ef2
  refine zz_aload_n (pc := 332) C dL_law_332 rfl ?_
  refine zz_aload_n (pc := 333) C dL_law_333 rfl ?_
  refine zz_iload (pc := 334) C dL_law_334 rfl ?_
  refine zz_iconst (pc := 336) C (v := 1) (by decide) dL_law_336 ?_
  refine zz_iadd (pc := 337) C dL_law_337 ?_
  refine zz_sld (pc := 338) C hX hbl hbA h1 e1 dL_law_338 ?_
  refine zz_aload_n (pc := 339) C dL_law_339 rfl ?_
  refine zz_iload (pc := 340) C dL_law_340 rfl ?_
  refine zz_iconst (pc := 342) C (v := 2) (by decide) dL_law_342 ?_
  refine zz_iadd (pc := 343) C dL_law_343 ?_
  refine zz_sld (pc := 344) C hX hbl hbA h2 e2 dL_law_344 ?_
  refine zz_flag (pc := 345) C ef2 dL_law_345 dL_law_348 dL_law_349 dL_law_352 ?_
  refine zz_aload_n (pc := 353) C dL_law_353 rfl ?_
  refine zzx_callSW (pc := 354) C h8 (c_L_waitAny l hl D (G := G) (x9 := a1) (f9 := f2) hC hW hf2 ho) gL_law_L_waitAny rfl 4 (by decide +kernel) ⟨Nat.le_of_ble_eq_true rfl, Nat.le_of_ble_eq_true rfl⟩ rfl dL_law_354 rfl (Nat.le_of_ble_eq_true rfl) rfl ⟨zRmC (T := 0) hr1 (Nat.le_add_right 2 _) (Nat.le_of_ble_eq_true rfl), zRmS (T := 0) hr2 (Nat.le_add_right 12 _) (Nat.le_of_ble_eq_true rfl)⟩ (fun E hE => hE.elim) ?_
  rintro v G9 ⟨rfl, ⟨A9, hC9⟩, ⟨w9, ho9, hw9⟩, hk2⟩
  obtain ⟨r, hR, hag, hrth, hring⟩ := hM.mv hk2
  refine zz_istore (pc := 357) C dL_law_357 (Nat.le_of_ble_eq_true rfl) ?_
  refine zz_aload_n (pc := 359) C dL_law_359 rfl ?_
  refine zz_aload_n (pc := 360) C dL_law_360 rfl ?_
  refine zz_iload (pc := 361) C dL_law_361 rfl ?_
  refine zz_iconst (pc := 363) C (v := 1) (by decide) dL_law_363 ?_
  refine zz_iadd (pc := 364) C dL_law_364 ?_
  refine zz_sld (pc := 365) C hX hbl hbA h1 e1 dL_law_365 ?_
  refine zz_aload_n (pc := 366) C dL_law_366 rfl ?_
  refine zz_iload (pc := 367) C dL_law_367 rfl ?_
  refine zz_iconst (pc := 369) C (v := 2) (by decide) dL_law_369 ?_
  refine zz_iadd (pc := 370) C dL_law_370 ?_
  refine zz_sld (pc := 371) C hX hbl hbA h2 e2 dL_law_371 ?_
  refine zz_flag (pc := 372) C ef2 dL_law_372 dL_law_375 dL_law_376 dL_law_379 ?_
  have hq1 := zRmU (a := ({ frames := 8, cells := 2, slots := 12, locals := 135 } : Room).cells) hr1 (T := 0) (Nat.le_trans (Nat.le_of_ble_eq_true (n := 2) (m := 5) rfl) (Nat.le_add_right 5 _))
  have hq2 := zRmV (a := ({ frames := 8, cells := 2, slots := 12, locals := 135 } : Room).slots) hr2 (T := 0) (Nat.le_trans (Nat.le_of_ble_eq_true (n := 12) (m := 40) rfl) (Nat.le_add_right 40 _))
  refine zz_callV (pc := 380) C (c_X3_waitAny l D (σ := σ) (x := a1) (f9 := f2) hR hag hring hW.z (zFlN hf2)) gL_law_X3_waitAny rfl 2 (by decide +kernel) ⟨Nat.le_of_ble_eq_true rfl, Nat.le_of_ble_eq_true rfl⟩ hR.2.1 (ci := 3) rfl rfl rfl dL_law_380 rfl (Nat.le_of_ble_eq_true rfl) rfl ⟨hq1, hq2⟩ ?_
  rintro v G10 ⟨rfl, hM10⟩
  obtain ⟨r10, hR10, hag10, hth10, hring10⟩ := id hM10
  refine zz_istore (pc := 383) C dL_law_383 (Nat.le_of_ble_eq_true rfl) ?_
  refine zz_aload_n (pc := 385) C dL_law_385 rfl ?_
  refine zz_callV (pc := 386) C (c_X3_thrown l D hR10) gL_law_X3_thrown rfl 0 (by decide +kernel) ⟨Nat.le_of_ble_eq_true rfl, Nat.le_of_ble_eq_true rfl⟩ hR10.2.1 (ci := 3) rfl rfl rfl dL_law_386 rfl (Nat.le_of_ble_eq_true rfl) rfl ⟨zRoom0 hq1, zRoom0 hq2⟩ ?_
  rintro v G11 ⟨rfl, rfl⟩
  rw [hth10]
  refine zz_iload (pc := 389) C dL_law_389 rfl ?_
  refine zz_icmp_eq (pc := 391) C (tgt := 396) dL_law_391 (by decide) (fun _ => ?_) (fun h => absurd rfl h)
  refine zz_iload (pc := 396) C dL_law_396 rfl ?_
  refine zz_if_ne (pc := 398) C (tgt := 420) dL_law_398 (by decide) (fun _ => ?_) (fun hcz => ?_)
  · refine zV.less (L' := lL b x y o (nI j)) ⟨rfl, rfl, rfl, rfl, rfl, trivial⟩ ?_
    refine zz_goto (pc := 420) C (tgt := 1886) dL_law_420 (by decide) ?_
    exact zV.widen (zLe3 (Nat.le_trans (Nat.le_of_ble_eq_true (n := 2) (m := 8) rfl) (Nat.le_add_right 8 _)) rfl rfl) (zLe3 (Nat.le_trans (Nat.le_of_ble_eq_true (n := 12) (m := 48) rfl) (Nat.le_add_right 48 _)) rfl rfl) (kk _ _ (if zE2 (¬ zHere σ a1) (zNot σ (pn a1)) = 0 then m0 else m0) (zInv_of (zIfW (fun z => zk_waitAny hW hf2 z) hW) hC9 ho9 hM10) (Nat.le_of_eq (ite_self _).symm))
  · skip
    refine zz_aload_n (pc := 401) C dL_law_401 rfl ?_
    refine zz_iconst (pc := 402) C (v := 0) (by decide) dL_law_402 ?_
    refine zz_lald (pc := 403) C dL_law_403 (n := 1) (hM10.fr o 3 _ ho9 (by decide)) (by unfold vp_in; decide) ?_
    refine zz_iload (pc := 404) C dL_law_404 rfl ?_
    refine zz_flagL (pc := 406) C dL_law_406 dL_law_409 dL_law_410 dL_law_413 ?_
    refine zz_lcmp (pc := 414) C dL_law_414 ?_
    refine zz_if_eq (pc := 415) C (tgt := 420) dL_law_415 (by decide) (fun _ => ?_) (fun h => absurd (zCmp_b hw9 (Classical.not_not.mp hcz)) h)
    refine zV.less (L' := lL b x y o (nI j)) ⟨rfl, rfl, rfl, rfl, rfl, trivial⟩ ?_
    refine zz_goto (pc := 420) C (tgt := 1886) dL_law_420 (by decide) ?_
    exact zV.widen (zLe3 (Nat.le_trans (Nat.le_of_ble_eq_true (n := 2) (m := 8) rfl) (Nat.le_add_right 8 _)) rfl rfl) (zLe3 (Nat.le_trans (Nat.le_of_ble_eq_true (n := 12) (m := 48) rfl) (Nat.le_add_right 48 _)) rfl rfl) (kk _ _ (if zE2 (¬ zHere σ a1) (zNot σ (pn a1)) = 0 then m0 else m0) (zInv_of (zIfW (fun z => zk_waitAny hW hf2 z) hW) hC9 ho9 hM10) (Nat.le_of_eq (ite_self _).symm))
