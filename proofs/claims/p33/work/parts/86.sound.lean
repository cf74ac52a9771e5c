/-! each process is sound; all of them are -/
theorem z511_of {v : Int32} (h : v &&& 511 = v) : ∃ a, a < 512 ∧ v = nI a := by
  have h1 : v.toBitVec &&& 511#32 = v.toBitVec := by
    have := congrArg Int32.toBitVec h
    simpa using this
  have h2 : v.toBitVec.toNat &&& 511 = v.toBitVec.toNat := by
    have := congrArg BitVec.toNat h1
    simpa using this
  refine ⟨v.toBitVec.toNat, ?_, ?_⟩
  · have : v.toBitVec.toNat &&& 511 ≤ 511 := Nat.and_le_right
    omega
  · apply Int32.toBitVec_inj.mp
    show v.toBitVec = (Int32.ofNat v.toBitVec.toNat).toBitVec
    simp
theorem z475_511 {v : Int32} (h : v &&& 475 = v) : v &&& 511 = v := by
  rw [← h, Int32.and_assoc]
  congr 1
theorem zNN {v : Int32} (h : v &&& 511 = v) : ¬ v < 0 := by
  obtain ⟨a, ha, rfl⟩ := z511_of h
  exact nI_nlt (a := a) (b := 0) (by omega) (by omega)
theorem zL512 {v : Int32} (h : v &&& 511 = v) : ¬ (512 : Int32) ≤ v := by
  obtain ⟨a, ha, rfl⟩ := z511_of h
  exact fun z => by
    have := (nI_leI (a := 512) (b := a) (by decide) (by omega)).mp z
    omega
theorem zbit_36 {t : Nat} (ht : t < 32) : zbit 36 t = (decide (t = 2) || decide (t = 5)) := by
  have : ∀ t : Fin 32, zbit 36 t.val = (decide (t.val = 2) || decide (t.val = 5)) := by decide +kernel
  exact this ⟨t, ht⟩
theorem z36 {v : Int32} (h : zPp v) : v &&& 36 = 0 := by
  apply zbit_ext
  intro t ht
  rw [zbit_0, zbit_and, zbit_36 ht]
  by_cases h2 : t = 2
  · rw [h2, h.1]; rfl
  · by_cases h5 : t = 5
    · rw [h5, h.2.1]; rfl
    · simp [h2, h5]
theorem z192 {v : Int32} (h : zPp v) : v &&& 192 ≠ 192 := fun z => h.2.2 ⟨by
  have h6 : zbit (v &&& 192) 6 = true := by rw [z]; decide
  rw [zbit_and, Bool.and_eq_true] at h6
  exact h6.1, by
  have h7 : zbit (v &&& 192) 7 = true := by rw [z]; decide
  rw [zbit_and, Bool.and_eq_true] at h7
  exact h7.1⟩
abbrev zHc (σ : zS) (k n : Nat) : Prop := ¬ ∀ j, j < n → ¬ (σ 0 j ≠ 0 ∧ σ 1 j = nI k)
theorem zHc_no {σ : zS} {k n : Nat} (h : ¬ zHc σ k n) (hn : ¬ (σ 0 n ≠ 0 ∧ σ 1 n = nI k)) : ¬ zHc σ k (n + 1) := fun z => z (zAll_succ.mpr ⟨Classical.not_not.mp h, hn⟩)
theorem zHc_yes {σ : zS} {k n : Nat} (hn : σ 0 n ≠ 0 ∧ σ 1 n = nI k) : zHc σ k (n + 1) := fun z => (zAll_succ.mp z).2 hn
theorem zHc_up {σ : zS} {k n : Nat} (h : zHc σ k n) : zHc σ k (n + 1) := fun z => h (zAll_succ.mp z).1
set_option maxHeartbeats 4000000 in
set_option maxRecDepth 100000 in
theorem c_L_isSound (l : Launch) (D : va_G) {B G : zG} {x tb ev : Nat} {A : Nat → Nat} {σ : zS} {m0 : Nat} (hC : zCl B x tb ev A σ [] 0 m0 G) {k9 : Nat} (hI : zIv 0 σ []) (h2 : 2 ≤ k9) (hk : k9 < 41) (h0 : σ 0 k9 ≠ 0) : zMet D l yL_isSound wsL_isSound ({ frames := 5, cells := 0, slots := 0, locals := 150 } : Room) [.ref x, .int (nI k9)] G (fun v G9 => v = some (.int 1) ∧ G9 = G) := by
  refine zMet_of (cc := cL_isSound) (maxL := 9) (ret := (some .boolean)) (by decide) rfl (Nat.le_of_ble_eq_true rfl) ?_
  intro p e s m args below meth c C hmn
  have hW := hI.wf
  have hP := hI.pk h0
  have hv : σ 11 k9 &&& 511 = σ 11 k9 := hW.2.2.2.2.2.2.1 k9
  obtain ⟨j, j1, j2, j3, j4, j5, j6⟩ := hW.par h0 (by omega)
  have K271 : zV p l e ({ frames := 5, cells := 0, slots := 0, locals := 150 } : Room) s m args below meth c D (zA G s.heap.size) 0 0 (zZ below D G (fun v G9 => v = some (.int 1) ∧ G9 = G) args s ({ frames := 5, cells := 0, slots := 0, locals := 150 } : Room)) G 271 [some (.ref x), some (.int (nI k9)), some (.int (zCon σ k9)), some (.int (nI j)), some (.int (1)), none, none, none, none] [] := by
    have hw : ((σ 18 k9 = 0 ∨ σ 18 k9 = 1 ∨ σ 18 k9 = 2) ∧ 1 < σ 19 k9 ∧ 0 ≤ σ 20 k9 ∧ (¬ σ 18 k9 = 0 → σ 20 k9 < 9)) ∨ ((σ 18 k9 = -1 ∨ σ 18 k9 = 3 ∨ σ 18 k9 = 4) ∧ σ 19 k9 = -1 ∧ σ 20 k9 = -1) := by
      rcases hP.2.2.2.1 with ⟨a, b, c⟩ | ⟨a, b, c, d⟩ | ⟨a, b, c⟩
      · exact Or.inl ⟨Or.inl a, b, c, fun z => absurd a z⟩
      · exact Or.inl ⟨Or.inr a, b, c, fun _ => d⟩
      · exact Or.inr ⟨a, b, c⟩
    rcases hw with ⟨hr, hw2, hw3, hw4⟩ | ⟨hr, hw2, hw3⟩
    · skip
      refine zz_aload_n (pc := 271) C dL_isSound_271 rfl ?_
      refine zz_iload_n (pc := 272) C dL_isSound_272 rfl ?_
      refine zz_callV (pc := 273) C (q_waitResult l D hC (by omega) hk h0) gL_isSound_X2_waitResult rfl 1 (by decide +kernel) ⟨Nat.le_of_ble_eq_true rfl, Nat.le_of_ble_eq_true rfl⟩ hC.x (ci := 2) rfl rfl rfl dL_isSound_273 rfl (Nat.le_of_ble_eq_true rfl) rfl ⟨Nat.le_of_ble_eq_true rfl, Nat.le_of_ble_eq_true rfl⟩ ?_
      rintro v G9 ⟨rfl, rfl⟩
      refine zz_istore (pc := 276) C dL_isSound_276 (Nat.le_of_ble_eq_true rfl) ?_
      refine zV.less (L' := [some (.ref (x)), some (.int (nI k9)), some (.int (zCon σ k9)), some (.int (nI j)), some (.int (1)), none, none, some (.int (σ 18 k9)), none]) ⟨rfl, rfl, rfl, rfl, rfl, rfl, trivial⟩ ?_
      refine zz_iload (pc := 278) C dL_isSound_278 rfl ?_
      refine zz_if_lt (pc := 280) C (tgt := 293) dL_isSound_280 (by decide) (fun hc280 => ?_) (fun hc280 => ?_)
      · exact absurd hc280 (by rcases hr with e | e | e <;> rw [e] <;> decide)
      · refine zz_iload (pc := 283) C dL_isSound_283 rfl ?_
        refine zz_iconst (pc := 285) C (v := 2) (by decide) dL_isSound_285 ?_
        refine zz_icmp_gt (pc := 286) C (tgt := 293) dL_isSound_286 (by decide) (fun hc286 => ?_) (fun hc286 => ?_)
        · exact absurd hc286 (by rcases hr with e | e | e <;> rw [e] <;> decide)
        · refine zz_iconst (pc := 289) C (v := 1) (by decide) dL_isSound_289 ?_
          refine zz_goto (pc := 290) C (tgt := 294) dL_isSound_290 (by decide) ?_
          refine zz_istore (pc := 294) C dL_isSound_294 (Nat.le_of_ble_eq_true rfl) ?_
          refine zV.less (L' := [some (.ref (x)), some (.int (nI k9)), some (.int (zCon σ k9)), some (.int (nI j)), some (.int (1)), none, none, some (.int (σ 18 k9)), some (.int (1))]) ⟨rfl, rfl, rfl, rfl, rfl, rfl, rfl, trivial⟩ ?_
          refine zz_iload (pc := 296) C dL_isSound_296 rfl ?_
          refine zz_if_eq (pc := 298) C (tgt := 363) dL_isSound_298 (by decide) (fun hc298 => ?_) (fun hc298 => ?_)
          · exact absurd hc298 (by decide)
          · refine zz_iload (pc := 301) C dL_isSound_301 rfl ?_
            refine zz_if_eq (pc := 303) C (tgt := 341) dL_isSound_303 (by decide) (fun hc303 => ?_) (fun hc303 => ?_)
            · exact absurd hc303 (by decide)
            · refine zz_aload_n (pc := 306) C dL_isSound_306 rfl ?_
              refine zz_iload_n (pc := 307) C dL_isSound_307 rfl ?_
              refine zz_callV (pc := 308) C (q_reportedChild l D hC (by omega) hk h0) gL_isSound_X2_reportedChild rfl 1 (by decide +kernel) ⟨Nat.le_of_ble_eq_true rfl, Nat.le_of_ble_eq_true rfl⟩ hC.x (ci := 2) rfl rfl rfl dL_isSound_308 rfl (Nat.le_of_ble_eq_true rfl) rfl ⟨Nat.le_of_ble_eq_true rfl, Nat.le_of_ble_eq_true rfl⟩ ?_
              rintro v G9 ⟨rfl, rfl⟩
              refine zz_iconst (pc := 311) C (v := 1) (by decide) dL_isSound_311 ?_
              refine zz_icmp_le (pc := 312) C (tgt := 363) dL_isSound_312 (by decide) (fun hc312 => ?_) (fun hc312 => ?_)
              · exact absurd hc312 (Int32.not_le.mpr hw2)
              · refine zz_aload_n (pc := 315) C dL_isSound_315 rfl ?_
                refine zz_iload_n (pc := 316) C dL_isSound_316 rfl ?_
                refine zz_callV (pc := 317) C (q_reportedValue l D hC (by omega) hk h0) gL_isSound_X2_reportedValue rfl 1 (by decide +kernel) ⟨Nat.le_of_ble_eq_true rfl, Nat.le_of_ble_eq_true rfl⟩ hC.x (ci := 2) rfl rfl rfl dL_isSound_317 rfl (Nat.le_of_ble_eq_true rfl) rfl ⟨Nat.le_of_ble_eq_true rfl, Nat.le_of_ble_eq_true rfl⟩ ?_
                rintro v G9 ⟨rfl, rfl⟩
                refine zz_if_lt (pc := 320) C (tgt := 363) dL_isSound_320 (by decide) (fun hc320 => ?_) (fun hc320 => ?_)
                · exact absurd hc320 (Int32.not_lt.mpr hw3)
                · refine zz_iload (pc := 323) C dL_isSound_323 rfl ?_
                  refine zz_if_eq (pc := 325) C (tgt := 359) dL_isSound_325 (by decide) (fun hc325 => ?_) (fun hc325 => ?_)
                  · refine zz_iconst (pc := 359) C (v := 1) (by decide) dL_isSound_359 ?_
                    refine zz_goto (pc := 360) C (tgt := 364) dL_isSound_360 (by decide) ?_
                    exact zz_ireturn (pc := 364) C dL_isSound_364 (by first | rfl | exact zb_nar) (Nat.le_of_ble_eq_true rfl) (Nat.le_of_ble_eq_true rfl) ⟨rfl, rfl⟩
                  · refine zz_aload_n (pc := 328) C dL_isSound_328 rfl ?_
                    refine zz_iload_n (pc := 329) C dL_isSound_329 rfl ?_
                    refine zz_callV (pc := 330) C (q_reportedValue l D hC (by omega) hk h0) gL_isSound_X2_reportedValue rfl 1 (by decide +kernel) ⟨Nat.le_of_ble_eq_true rfl, Nat.le_of_ble_eq_true rfl⟩ hC.x (ci := 2) rfl rfl rfl dL_isSound_330 rfl (Nat.le_of_ble_eq_true rfl) rfl ⟨Nat.le_of_ble_eq_true rfl, Nat.le_of_ble_eq_true rfl⟩ ?_
                    rintro v G9 ⟨rfl, rfl⟩
                    refine zz_bipush (pc := 333) C (v := 9) (by decide) dL_isSound_333 ?_
                    refine zz_icmp_ge (pc := 335) C (tgt := 363) dL_isSound_335 (by decide) (fun hc335 => ?_) (fun hc335 => ?_)
                    · exact absurd hc335 (Int32.not_le.mpr (hw4 hc325))
                    · refine zz_goto (pc := 338) C (tgt := 359) dL_isSound_338 (by decide) ?_
                      refine zz_iconst (pc := 359) C (v := 1) (by decide) dL_isSound_359 ?_
                      refine zz_goto (pc := 360) C (tgt := 364) dL_isSound_360 (by decide) ?_
                      exact zz_ireturn (pc := 364) C dL_isSound_364 (by first | rfl | exact zb_nar) (Nat.le_of_ble_eq_true rfl) (Nat.le_of_ble_eq_true rfl) ⟨rfl, rfl⟩
    · skip
      refine zz_aload_n (pc := 271) C dL_isSound_271 rfl ?_
      refine zz_iload_n (pc := 272) C dL_isSound_272 rfl ?_
      refine zz_callV (pc := 273) C (q_waitResult l D hC (by omega) hk h0) gL_isSound_X2_waitResult rfl 1 (by decide +kernel) ⟨Nat.le_of_ble_eq_true rfl, Nat.le_of_ble_eq_true rfl⟩ hC.x (ci := 2) rfl rfl rfl dL_isSound_273 rfl (Nat.le_of_ble_eq_true rfl) rfl ⟨Nat.le_of_ble_eq_true rfl, Nat.le_of_ble_eq_true rfl⟩ ?_
      rintro v G9 ⟨rfl, rfl⟩
      refine zz_istore (pc := 276) C dL_isSound_276 (Nat.le_of_ble_eq_true rfl) ?_
      refine zV.less (L' := [some (.ref (x)), some (.int (nI k9)), some (.int (zCon σ k9)), some (.int (nI j)), some (.int (1)), none, none, some (.int (σ 18 k9)), none]) ⟨rfl, rfl, rfl, rfl, rfl, rfl, trivial⟩ ?_
      refine zz_iload (pc := 278) C dL_isSound_278 rfl ?_
      refine zz_if_lt (pc := 280) C (tgt := 293) dL_isSound_280 (by decide) (fun hc280 => ?_) (fun hc280 => ?_)
      · refine zz_iconst (pc := 293) C (v := 0) (by decide) dL_isSound_293 ?_
        refine zz_istore (pc := 294) C dL_isSound_294 (Nat.le_of_ble_eq_true rfl) ?_
        refine zV.less (L' := [some (.ref (x)), some (.int (nI k9)), some (.int (zCon σ k9)), some (.int (nI j)), some (.int (1)), none, none, some (.int (σ 18 k9)), some (.int (0))]) ⟨rfl, rfl, rfl, rfl, rfl, rfl, rfl, trivial⟩ ?_
        refine zz_iload (pc := 296) C dL_isSound_296 rfl ?_
        refine zz_if_eq (pc := 298) C (tgt := 363) dL_isSound_298 (by decide) (fun hc298 => ?_) (fun hc298 => ?_)
        · exact absurd hc298 (by decide)
        · refine zz_iload (pc := 301) C dL_isSound_301 rfl ?_
          refine zz_if_eq (pc := 303) C (tgt := 341) dL_isSound_303 (by decide) (fun hc303 => ?_) (fun hc303 => ?_)
          · refine zz_aload_n (pc := 341) C dL_isSound_341 rfl ?_
            refine zz_iload_n (pc := 342) C dL_isSound_342 rfl ?_
            refine zz_callV (pc := 343) C (q_reportedChild l D hC (by omega) hk h0) gL_isSound_X2_reportedChild rfl 1 (by decide +kernel) ⟨Nat.le_of_ble_eq_true rfl, Nat.le_of_ble_eq_true rfl⟩ hC.x (ci := 2) rfl rfl rfl dL_isSound_343 rfl (Nat.le_of_ble_eq_true rfl) rfl ⟨Nat.le_of_ble_eq_true rfl, Nat.le_of_ble_eq_true rfl⟩ ?_
            rintro v G9 ⟨rfl, rfl⟩
            refine zz_iconst (pc := 346) C (v := -1) (by decide) dL_isSound_346 ?_
            refine zz_icmp_ne (pc := 347) C (tgt := 363) dL_isSound_347 (by decide) (fun hc347 => ?_) (fun hc347 => ?_)
            · exact absurd hw2 hc347
            · refine zz_aload_n (pc := 350) C dL_isSound_350 rfl ?_
              refine zz_iload_n (pc := 351) C dL_isSound_351 rfl ?_
              refine zz_callV (pc := 352) C (q_reportedValue l D hC (by omega) hk h0) gL_isSound_X2_reportedValue rfl 1 (by decide +kernel) ⟨Nat.le_of_ble_eq_true rfl, Nat.le_of_ble_eq_true rfl⟩ hC.x (ci := 2) rfl rfl rfl dL_isSound_352 rfl (Nat.le_of_ble_eq_true rfl) rfl ⟨Nat.le_of_ble_eq_true rfl, Nat.le_of_ble_eq_true rfl⟩ ?_
              rintro v G9 ⟨rfl, rfl⟩
              refine zz_iconst (pc := 355) C (v := -1) (by decide) dL_isSound_355 ?_
              refine zz_icmp_ne (pc := 356) C (tgt := 363) dL_isSound_356 (by decide) (fun hc356 => ?_) (fun hc356 => ?_)
              · exact absurd hw3 hc356
              · refine zz_iconst (pc := 359) C (v := 1) (by decide) dL_isSound_359 ?_
                refine zz_goto (pc := 360) C (tgt := 364) dL_isSound_360 (by decide) ?_
                exact zz_ireturn (pc := 364) C dL_isSound_364 (by first | rfl | exact zb_nar) (Nat.le_of_ble_eq_true rfl) (Nat.le_of_ble_eq_true rfl) ⟨rfl, rfl⟩
          · exact absurd rfl hc303
      · refine zz_iload (pc := 283) C dL_isSound_283 rfl ?_
        refine zz_iconst (pc := 285) C (v := 2) (by decide) dL_isSound_285 ?_
        refine zz_icmp_gt (pc := 286) C (tgt := 293) dL_isSound_286 (by decide) (fun hc286 => ?_) (fun hc286 => ?_)
        · refine zz_iconst (pc := 293) C (v := 0) (by decide) dL_isSound_293 ?_
          refine zz_istore (pc := 294) C dL_isSound_294 (Nat.le_of_ble_eq_true rfl) ?_
          refine zV.less (L' := [some (.ref (x)), some (.int (nI k9)), some (.int (zCon σ k9)), some (.int (nI j)), some (.int (1)), none, none, some (.int (σ 18 k9)), some (.int (0))]) ⟨rfl, rfl, rfl, rfl, rfl, rfl, rfl, trivial⟩ ?_
          refine zz_iload (pc := 296) C dL_isSound_296 rfl ?_
          refine zz_if_eq (pc := 298) C (tgt := 363) dL_isSound_298 (by decide) (fun hc298 => ?_) (fun hc298 => ?_)
          · exact absurd hc298 (by decide)
          · refine zz_iload (pc := 301) C dL_isSound_301 rfl ?_
            refine zz_if_eq (pc := 303) C (tgt := 341) dL_isSound_303 (by decide) (fun hc303 => ?_) (fun hc303 => ?_)
            · refine zz_aload_n (pc := 341) C dL_isSound_341 rfl ?_
              refine zz_iload_n (pc := 342) C dL_isSound_342 rfl ?_
              refine zz_callV (pc := 343) C (q_reportedChild l D hC (by omega) hk h0) gL_isSound_X2_reportedChild rfl 1 (by decide +kernel) ⟨Nat.le_of_ble_eq_true rfl, Nat.le_of_ble_eq_true rfl⟩ hC.x (ci := 2) rfl rfl rfl dL_isSound_343 rfl (Nat.le_of_ble_eq_true rfl) rfl ⟨Nat.le_of_ble_eq_true rfl, Nat.le_of_ble_eq_true rfl⟩ ?_
              rintro v G9 ⟨rfl, rfl⟩
              refine zz_iconst (pc := 346) C (v := -1) (by decide) dL_isSound_346 ?_
              refine zz_icmp_ne (pc := 347) C (tgt := 363) dL_isSound_347 (by decide) (fun hc347 => ?_) (fun hc347 => ?_)
              · exact absurd hw2 hc347
              · refine zz_aload_n (pc := 350) C dL_isSound_350 rfl ?_
                refine zz_iload_n (pc := 351) C dL_isSound_351 rfl ?_
                refine zz_callV (pc := 352) C (q_reportedValue l D hC (by omega) hk h0) gL_isSound_X2_reportedValue rfl 1 (by decide +kernel) ⟨Nat.le_of_ble_eq_true rfl, Nat.le_of_ble_eq_true rfl⟩ hC.x (ci := 2) rfl rfl rfl dL_isSound_352 rfl (Nat.le_of_ble_eq_true rfl) rfl ⟨Nat.le_of_ble_eq_true rfl, Nat.le_of_ble_eq_true rfl⟩ ?_
                rintro v G9 ⟨rfl, rfl⟩
                refine zz_iconst (pc := 355) C (v := -1) (by decide) dL_isSound_355 ?_
                refine zz_icmp_ne (pc := 356) C (tgt := 363) dL_isSound_356 (by decide) (fun hc356 => ?_) (fun hc356 => ?_)
                · exact absurd hw3 hc356
                · refine zz_iconst (pc := 359) C (v := 1) (by decide) dL_isSound_359 ?_
                  refine zz_goto (pc := 360) C (tgt := 364) dL_isSound_360 (by decide) ?_
                  exact zz_ireturn (pc := 364) C dL_isSound_364 (by first | rfl | exact zb_nar) (Nat.le_of_ble_eq_true rfl) (Nat.le_of_ble_eq_true rfl) ⟨rfl, rfl⟩
            · exact absurd rfl hc303
        · exact absurd (by rcases hr with e | e | e <;> rw [e] at hc280 ⊢ <;> first | decide | exact absurd (by decide) hc280) hc286
  have K264 : zV p l e ({ frames := 5, cells := 0, slots := 0, locals := 150 } : Room) s m args below meth c D (zA G s.heap.size) 0 0 (zZ below D G (fun v G9 => v = some (.int 1) ∧ G9 = G) args s ({ frames := 5, cells := 0, slots := 0, locals := 150 } : Room)) G 264 [some (.ref x), some (.int (nI k9)), some (.int (zCon σ k9)), some (.int (nI j)), some (.int (1)), none, none, none, none] [] := by
    refine zz_iconst (pc := 264) C (v := 1) (by decide) dL_isSound_264 ?_
    refine zz_goto (pc := 265) C (tgt := 269) dL_isSound_265 (by decide) ?_
    refine zz_istore (pc := 269) C dL_isSound_269 (Nat.le_of_ble_eq_true rfl) ?_
    refine zV.less (L' := [some (.ref (x)), some (.int (nI k9)), some (.int (zCon σ k9)), some (.int (nI j)), some (.int (1)), none, none, none, none]) ⟨rfl, rfl, rfl, rfl, rfl, trivial⟩ ?_
    exact zV.less (L' := [some (.ref x), some (.int (nI k9)), some (.int (zCon σ k9)), some (.int (nI j)), some (.int (1)), none, none, none, none]) ⟨rfl, rfl, rfl, rfl, rfl, trivial⟩ K271
  have hnone : zCon σ k9 = 3 → ¬ zHc σ k9 41 := fun z3 hh => hh (fun c hc41 hcc => by
    have hc1 : c ≠ 1 := fun y => by
      have h2 := hcc.2
      rw [y, hW.x.2.1] at h2
      exact znm1 hk h2.symm
    obtain ⟨m, m1, m2, m3, m4, m5, m6⟩ := hW.par hcc.1 hc1
    have hmk : m = k9 := (nI_eq (by omega) (by omega)).mp (m1.symm.trans hcc.2)
    rw [hmk] at m6
    exact zCon_3.mp z3 m6)
  have hsome : zCon σ k9 = 1 → zHc σ k9 41 := fun z1 hh => by
    have h9 := zCon_1.mp z1
    obtain ⟨m, m1, m2, m3, m4⟩ := hI.2.2.2.1 k9 h0 h9.2.2 h9.2.1 (by omega)
    exact hh m m1 ⟨m2, m3⟩
  have K254 : zV p l e ({ frames := 5, cells := 0, slots := 0, locals := 150 } : Room) s m args below meth c D (zA G s.heap.size) 0 0 (zZ below D G (fun v G9 => v = some (.int 1) ∧ G9 = G) args s ({ frames := 5, cells := 0, slots := 0, locals := 150 } : Room)) G 254 [some (.ref x), some (.int (nI k9)), some (.int (zCon σ k9)), some (.int (nI j)), some (.int (1)), none, some (.int (zb (zHc σ k9 41))), none, none] [] := by
    refine zz_iload_n (pc := 254) C dL_isSound_254 rfl ?_
    refine zz_iconst (pc := 255) C (v := 3) (by decide) dL_isSound_255 ?_
    refine zz_icmp_ne (pc := 256) C (tgt := 264) dL_isSound_256 (by decide) (fun hc256 => ?_) (fun hc256 => ?_)
    · exact zV.less (L' := [some (.ref x), some (.int (nI k9)), some (.int (zCon σ k9)), some (.int (nI j)), some (.int (1)), none, none, none, none]) ⟨rfl, rfl, rfl, rfl, rfl, trivial⟩ K264
    · refine zz_iload (pc := 259) C dL_isSound_259 rfl ?_
      refine zz_if_ne (pc := 261) C (tgt := 268) dL_isSound_261 (by decide) (fun hc261 => ?_) (fun hc261 => ?_)
      · exact absurd (zb_ne.mp hc261) (hnone (Classical.not_not.mp hc256))
      · exact zV.less (L' := [some (.ref x), some (.int (nI k9)), some (.int (zCon σ k9)), some (.int (nI j)), some (.int (1)), none, none, none, none]) ⟨rfl, rfl, rfl, rfl, rfl, trivial⟩ K264
  have K239 : zV p l e ({ frames := 5, cells := 0, slots := 0, locals := 150 } : Room) s m args below meth c D (zA G s.heap.size) 0 0 (zZ below D G (fun v G9 => v = some (.int 1) ∧ G9 = G) args s ({ frames := 5, cells := 0, slots := 0, locals := 150 } : Room)) G 239 [some (.ref x), some (.int (nI k9)), some (.int (zCon σ k9)), some (.int (nI j)), some (.int (1)), none, some (.int (zb (zHc σ k9 41))), none, none] [] := by
    refine zz_iload (pc := 239) C dL_isSound_239 rfl ?_
    refine zz_if_eq (pc := 241) C (tgt := 268) dL_isSound_241 (by decide) (fun hc241 => ?_) (fun hc241 => ?_)
    · exact absurd hc241 (by decide)
    · refine zz_iload_n (pc := 244) C dL_isSound_244 rfl ?_
      refine zz_iconst (pc := 245) C (v := 1) (by decide) dL_isSound_245 ?_
      refine zz_icmp_ne (pc := 246) C (tgt := 254) dL_isSound_246 (by decide) (fun hc246 => ?_) (fun hc246 => ?_)
      · exact zV.less (L' := [some (.ref x), some (.int (nI k9)), some (.int (zCon σ k9)), some (.int (nI j)), some (.int (1)), none, some (.int (zb (zHc σ k9 41))), none, none]) ⟨rfl, rfl, rfl, rfl, rfl, rfl, trivial⟩ K254
      · refine zz_iload (pc := 249) C dL_isSound_249 rfl ?_
        refine zz_if_eq (pc := 251) C (tgt := 268) dL_isSound_251 (by decide) (fun hc251 => ?_) (fun hc251 => ?_)
        · exact absurd (hsome (Classical.not_not.mp hc246)) (zb_eq.mp hc251)
        · exact zV.less (L' := [some (.ref x), some (.int (nI k9)), some (.int (zCon σ k9)), some (.int (nI j)), some (.int (1)), none, some (.int (zb (zHc σ k9 41))), none, none]) ⟨rfl, rfl, rfl, rfl, rfl, rfl, trivial⟩ K254
  have loop : ∀ (n i : Nat), i + n = 41 → 2 ≤ i → zV p l e ({ frames := 5, cells := 0, slots := 0, locals := 150 } : Room) s m args below meth c D (zA G s.heap.size) 0 0 (zZ below D G (fun v G9 => v = some (.int 1) ∧ G9 = G) args s ({ frames := 5, cells := 0, slots := 0, locals := 150 } : Room)) G 155 [some (.ref x), some (.int (nI k9)), some (.int (zCon σ k9)), some (.int (nI j)), some (.int (1)), none, some (.int (zb (zHc σ k9 (i)))), some (.int (nI (i))), none] [] := by
    intro n
    induction n with
    | zero =>
      intro i hi hi2
      have hi41 : i = 41 := by omega
      subst hi41
      refine zz_iload (pc := 155) C dL_isSound_155 rfl ?_
      refine zz_bipush (pc := 157) C (v := 41) (by decide) dL_isSound_157 ?_
      refine zz_icmp_ge (pc := 159) C (tgt := 239) dL_isSound_159 (by decide) (fun hc159 => ?_) (fun hc159 => ?_)
      · exact zV.less (L' := [some (.ref x), some (.int (nI k9)), some (.int (zCon σ k9)), some (.int (nI j)), some (.int (1)), none, some (.int (zb (zHc σ k9 41))), none, none]) ⟨rfl, rfl, rfl, rfl, rfl, rfl, trivial⟩ K239
      · exact absurd z41c hc159
    | succ n ih =>
      intro i hi hi2
      have K191 : zV p l e ({ frames := 5, cells := 0, slots := 0, locals := 150 } : Room) s m args below meth c D (zA G s.heap.size) 0 0 (zZ below D G (fun v G9 => v = some (.int 1) ∧ G9 = G) args s ({ frames := 5, cells := 0, slots := 0, locals := 150 } : Room)) G 191 [some (.ref x), some (.int (nI k9)), some (.int (zCon σ k9)), some (.int (nI j)), some (.int (1)), none, some (.int (zb (zHc σ k9 (i)))), some (.int (nI (i))), none] [.int (zb (zHc σ k9 (i + 1)))] := by
        refine zz_istore (pc := 191) C dL_isSound_191 (Nat.le_of_ble_eq_true rfl) ?_
        refine zV.less (L' := [some (.ref (x)), some (.int (nI k9)), some (.int (zCon σ k9)), some (.int (nI j)), some (.int (1)), none, some (.int (zb (zHc σ k9 (i + 1)))), some (.int (nI (i))), none]) ⟨rfl, rfl, rfl, rfl, rfl, rfl, rfl, trivial⟩ ?_
        refine zz_iload (pc := 193) C dL_isSound_193 rfl ?_
        refine zz_if_eq (pc := 195) C (tgt := 230) dL_isSound_195 (by decide) (fun hc195 => ?_) (fun hc195 => ?_)
        · exact absurd hc195 (by decide)
        · refine zz_aload_n (pc := 198) C dL_isSound_198 rfl ?_
          refine zz_iload (pc := 199) C dL_isSound_199 rfl ?_
          refine zz_aload_n (pc := 201) C dL_isSound_201 rfl ?_
          refine zz_iload_n (pc := 202) C dL_isSound_202 rfl ?_
          refine zz_callV (pc := 203) C (q_group l D hC (by omega) hk h0) gL_isSound_X2_group rfl 1 (by decide +kernel) ⟨Nat.le_of_ble_eq_true rfl, Nat.le_of_ble_eq_true rfl⟩ hC.x (ci := 2) rfl rfl rfl dL_isSound_203 rfl (Nat.le_of_ble_eq_true rfl) rfl ⟨Nat.le_of_ble_eq_true rfl, Nat.le_of_ble_eq_true rfl⟩ ?_
          rintro v G9 ⟨rfl, rfl⟩
          refine zz_callS (pc := 206) C (c_L_isMember l D hC (by omega) (by omega)) gL_isSound_L_isMember rfl 3 (by decide +kernel) ⟨Nat.le_of_ble_eq_true rfl, Nat.le_of_ble_eq_true rfl⟩ rfl dL_isSound_206 rfl (Nat.le_of_ble_eq_true rfl) rfl ⟨Nat.le_of_ble_eq_true rfl, Nat.le_of_ble_eq_true rfl⟩ ?_
          rintro v G9 ⟨rfl, rfl⟩
          refine zz_if_eq (pc := 209) C (tgt := 226) dL_isSound_209 (by decide) (fun hc209 => ?_) (fun hc209 => ?_)
          · refine zz_iconst (pc := 226) C (v := 1) (by decide) dL_isSound_226 ?_
            refine zz_goto (pc := 227) C (tgt := 231) dL_isSound_227 (by decide) ?_
            refine zz_istore (pc := 231) C dL_isSound_231 (Nat.le_of_ble_eq_true rfl) ?_
            refine zV.less (L' := [some (.ref (x)), some (.int (nI k9)), some (.int (zCon σ k9)), some (.int (nI j)), some (.int (1)), none, some (.int (zb (zHc σ k9 (i + 1)))), some (.int (nI (i))), none]) ⟨rfl, rfl, rfl, rfl, rfl, rfl, rfl, trivial⟩ ?_
            refine zz_iinc (pc := 233) C dL_isSound_233 rfl ?_
            refine zV.less (L' := [some (.ref (x)), some (.int (nI k9)), some (.int (zCon σ k9)), some (.int (nI j)), some (.int (1)), none, some (.int (zb (zHc σ k9 (i + 1)))), some (.int (nI (i + 1))), none]) ⟨rfl, rfl, rfl, rfl, rfl, rfl, zvi (z1i i), trivial⟩ ?_
            refine zz_goto (pc := 236) C (tgt := 155) dL_isSound_236 (by decide) ?_
            exact ih (i + 1) (by omega) (by omega)
          · refine zz_aload_n (pc := 212) C dL_isSound_212 rfl ?_
            refine zz_iload (pc := 213) C dL_isSound_213 rfl ?_
            refine zz_callV (pc := 215) C (q_session l D hC (by omega) (by omega) (zbp hc209).1) gL_isSound_X2_session rfl 1 (by decide +kernel) ⟨Nat.le_of_ble_eq_true rfl, Nat.le_of_ble_eq_true rfl⟩ hC.x (ci := 2) rfl rfl rfl dL_isSound_215 rfl (Nat.le_of_ble_eq_true rfl) rfl ⟨Nat.le_of_ble_eq_true rfl, Nat.le_of_ble_eq_true rfl⟩ ?_
            rintro v G9 ⟨rfl, rfl⟩
            refine zz_aload_n (pc := 218) C dL_isSound_218 rfl ?_
            refine zz_iload_n (pc := 219) C dL_isSound_219 rfl ?_
            refine zz_callV (pc := 220) C (q_session l D hC (by omega) hk h0) gL_isSound_X2_session rfl 1 (by decide +kernel) ⟨Nat.le_of_ble_eq_true rfl, Nat.le_of_ble_eq_true rfl⟩ hC.x (ci := 2) rfl rfl rfl dL_isSound_220 rfl (Nat.le_of_ble_eq_true rfl) rfl ⟨Nat.le_of_ble_eq_true rfl, Nat.le_of_ble_eq_true rfl⟩ ?_
            rintro v G9 ⟨rfl, rfl⟩
            refine zz_icmp_ne (pc := 223) C (tgt := 230) dL_isSound_223 (by decide) (fun hc223 => ?_) (fun hc223 => ?_)
            · exact absurd (hI.2.2.2.2.2.1.1 i k9 (zbp hc209).1 h0 (zbp hc209).2.2) hc223
            · refine zz_iconst (pc := 226) C (v := 1) (by decide) dL_isSound_226 ?_
              refine zz_goto (pc := 227) C (tgt := 231) dL_isSound_227 (by decide) ?_
              refine zz_istore (pc := 231) C dL_isSound_231 (Nat.le_of_ble_eq_true rfl) ?_
              refine zV.less (L' := [some (.ref (x)), some (.int (nI k9)), some (.int (zCon σ k9)), some (.int (nI j)), some (.int (1)), none, some (.int (zb (zHc σ k9 (i + 1)))), some (.int (nI (i))), none]) ⟨rfl, rfl, rfl, rfl, rfl, rfl, rfl, trivial⟩ ?_
              refine zz_iinc (pc := 233) C dL_isSound_233 rfl ?_
              refine zV.less (L' := [some (.ref (x)), some (.int (nI k9)), some (.int (zCon σ k9)), some (.int (nI j)), some (.int (1)), none, some (.int (zb (zHc σ k9 (i + 1)))), some (.int (nI (i + 1))), none]) ⟨rfl, rfl, rfl, rfl, rfl, rfl, zvi (z1i i), trivial⟩ ?_
              refine zz_goto (pc := 236) C (tgt := 155) dL_isSound_236 (by decide) ?_
              exact ih (i + 1) (by omega) (by omega)
      refine zz_iload (pc := 155) C dL_isSound_155 rfl ?_
      refine zz_bipush (pc := 157) C (v := 41) (by decide) dL_isSound_157 ?_
      refine zz_icmp_ge (pc := 159) C (tgt := 239) dL_isSound_159 (by decide) (fun hc159 => ?_) (fun hc159 => ?_)
      · exact absurd hc159 (z41b (by omega))
      · refine zz_iload (pc := 162) C dL_isSound_162 rfl ?_
        refine zz_if_ne (pc := 164) C (tgt := 186) dL_isSound_164 (by decide) (fun hc164 => ?_) (fun hc164 => ?_)
        · refine zz_iconst (pc := 186) C (v := 1) (by decide) dL_isSound_186 ?_
          refine zz_goto (pc := 187) C (tgt := 191) dL_isSound_187 (by decide) ?_
          first
            | exact zV.less (L' := [some (.ref x), some (.int (nI k9)), some (.int (zCon σ k9)), some (.int (nI j)), some (.int (1)), none, some (.int (zb (zHc σ k9 (i)))), some (.int (nI (i))), none]) ⟨rfl, rfl, rfl, rfl, rfl, rfl, rfl, trivial⟩ (zV.top ((zb_t (zHc_up (zb_ne.mp hc164))).symm) K191)
            | exact zV.less (L' := [some (.ref x), some (.int (nI k9)), some (.int (zCon σ k9)), some (.int (nI j)), some (.int (1)), none, some (.int (zb (zHc σ k9 (i)))), some (.int (nI (i))), none]) ⟨rfl, rfl, rfl, rfl, rfl, rfl, rfl, trivial⟩ (zV.top ((zb_t (zHc_yes ⟨zbp hc173, Classical.not_not.mp hc183⟩)).symm) K191)
            | exact zV.less (L' := [some (.ref x), some (.int (nI k9)), some (.int (zCon σ k9)), some (.int (nI j)), some (.int (1)), none, some (.int (zb (zHc σ k9 (i)))), some (.int (nI (i))), none]) ⟨rfl, rfl, rfl, rfl, rfl, rfl, rfl, trivial⟩ (zV.top ((zb_f (zHc_no (fun y => hc164 (zb_ne.mpr y)) (fun y => zb_eq.mp hc173 y.1))).symm) K191)
            | exact zV.less (L' := [some (.ref x), some (.int (nI k9)), some (.int (zCon σ k9)), some (.int (nI j)), some (.int (1)), none, some (.int (zb (zHc σ k9 (i)))), some (.int (nI (i))), none]) ⟨rfl, rfl, rfl, rfl, rfl, rfl, rfl, trivial⟩ (zV.top ((zb_f (zHc_no (fun y => hc164 (zb_ne.mpr y)) (fun y => hc183 y.2))).symm) K191)
        · refine zz_aload_n (pc := 167) C dL_isSound_167 rfl ?_
          refine zz_iload (pc := 168) C dL_isSound_168 rfl ?_
          refine zz_callV (pc := 170) C (q_exists l D hC (by omega) (by omega)) gL_isSound_X2_exists rfl 1 (by decide +kernel) ⟨Nat.le_of_ble_eq_true rfl, Nat.le_of_ble_eq_true rfl⟩ hC.x (ci := 2) rfl rfl rfl dL_isSound_170 rfl (Nat.le_of_ble_eq_true rfl) rfl ⟨Nat.le_of_ble_eq_true rfl, Nat.le_of_ble_eq_true rfl⟩ ?_
          rintro v G9 ⟨rfl, rfl⟩
          refine zz_if_eq (pc := 173) C (tgt := 190) dL_isSound_173 (by decide) (fun hc173 => ?_) (fun hc173 => ?_)
          · refine zz_iconst (pc := 190) C (v := 0) (by decide) dL_isSound_190 ?_
            first
              | exact zV.less (L' := [some (.ref x), some (.int (nI k9)), some (.int (zCon σ k9)), some (.int (nI j)), some (.int (1)), none, some (.int (zb (zHc σ k9 (i)))), some (.int (nI (i))), none]) ⟨rfl, rfl, rfl, rfl, rfl, rfl, rfl, trivial⟩ (zV.top ((zb_t (zHc_up (zb_ne.mp hc164))).symm) K191)
              | exact zV.less (L' := [some (.ref x), some (.int (nI k9)), some (.int (zCon σ k9)), some (.int (nI j)), some (.int (1)), none, some (.int (zb (zHc σ k9 (i)))), some (.int (nI (i))), none]) ⟨rfl, rfl, rfl, rfl, rfl, rfl, rfl, trivial⟩ (zV.top ((zb_t (zHc_yes ⟨zbp hc173, Classical.not_not.mp hc183⟩)).symm) K191)
              | exact zV.less (L' := [some (.ref x), some (.int (nI k9)), some (.int (zCon σ k9)), some (.int (nI j)), some (.int (1)), none, some (.int (zb (zHc σ k9 (i)))), some (.int (nI (i))), none]) ⟨rfl, rfl, rfl, rfl, rfl, rfl, rfl, trivial⟩ (zV.top ((zb_f (zHc_no (fun y => hc164 (zb_ne.mpr y)) (fun y => zb_eq.mp hc173 y.1))).symm) K191)
              | exact zV.less (L' := [some (.ref x), some (.int (nI k9)), some (.int (zCon σ k9)), some (.int (nI j)), some (.int (1)), none, some (.int (zb (zHc σ k9 (i)))), some (.int (nI (i))), none]) ⟨rfl, rfl, rfl, rfl, rfl, rfl, rfl, trivial⟩ (zV.top ((zb_f (zHc_no (fun y => hc164 (zb_ne.mpr y)) (fun y => hc183 y.2))).symm) K191)
          · refine zz_aload_n (pc := 176) C dL_isSound_176 rfl ?_
            refine zz_iload (pc := 177) C dL_isSound_177 rfl ?_
            refine zz_callV (pc := 179) C (q_parent l D hC hW (by omega) (by omega) (zbp hc173)) gL_isSound_X2_parent rfl 1 (by decide +kernel) ⟨Nat.le_of_ble_eq_true rfl, Nat.le_of_ble_eq_true rfl⟩ hC.x (ci := 2) rfl rfl rfl dL_isSound_179 rfl (Nat.le_of_ble_eq_true rfl) rfl ⟨Nat.le_of_ble_eq_true rfl, Nat.le_of_ble_eq_true rfl⟩ ?_
            rintro v G9 ⟨rfl, rfl⟩
            refine zz_iload_n (pc := 182) C dL_isSound_182 rfl ?_
            refine zz_icmp_ne (pc := 183) C (tgt := 190) dL_isSound_183 (by decide) (fun hc183 => ?_) (fun hc183 => ?_)
            · refine zz_iconst (pc := 190) C (v := 0) (by decide) dL_isSound_190 ?_
              first
                | exact zV.less (L' := [some (.ref x), some (.int (nI k9)), some (.int (zCon σ k9)), some (.int (nI j)), some (.int (1)), none, some (.int (zb (zHc σ k9 (i)))), some (.int (nI (i))), none]) ⟨rfl, rfl, rfl, rfl, rfl, rfl, rfl, trivial⟩ (zV.top ((zb_t (zHc_up (zb_ne.mp hc164))).symm) K191)
                | exact zV.less (L' := [some (.ref x), some (.int (nI k9)), some (.int (zCon σ k9)), some (.int (nI j)), some (.int (1)), none, some (.int (zb (zHc σ k9 (i)))), some (.int (nI (i))), none]) ⟨rfl, rfl, rfl, rfl, rfl, rfl, rfl, trivial⟩ (zV.top ((zb_t (zHc_yes ⟨zbp hc173, Classical.not_not.mp hc183⟩)).symm) K191)
                | exact zV.less (L' := [some (.ref x), some (.int (nI k9)), some (.int (zCon σ k9)), some (.int (nI j)), some (.int (1)), none, some (.int (zb (zHc σ k9 (i)))), some (.int (nI (i))), none]) ⟨rfl, rfl, rfl, rfl, rfl, rfl, rfl, trivial⟩ (zV.top ((zb_f (zHc_no (fun y => hc164 (zb_ne.mpr y)) (fun y => zb_eq.mp hc173 y.1))).symm) K191)
                | exact zV.less (L' := [some (.ref x), some (.int (nI k9)), some (.int (zCon σ k9)), some (.int (nI j)), some (.int (1)), none, some (.int (zb (zHc σ k9 (i)))), some (.int (nI (i))), none]) ⟨rfl, rfl, rfl, rfl, rfl, rfl, rfl, trivial⟩ (zV.top ((zb_f (zHc_no (fun y => hc164 (zb_ne.mpr y)) (fun y => hc183 y.2))).symm) K191)
            · refine zz_iconst (pc := 186) C (v := 1) (by decide) dL_isSound_186 ?_
              refine zz_goto (pc := 187) C (tgt := 191) dL_isSound_187 (by decide) ?_
              first
                | exact zV.less (L' := [some (.ref x), some (.int (nI k9)), some (.int (zCon σ k9)), some (.int (nI j)), some (.int (1)), none, some (.int (zb (zHc σ k9 (i)))), some (.int (nI (i))), none]) ⟨rfl, rfl, rfl, rfl, rfl, rfl, rfl, trivial⟩ (zV.top ((zb_t (zHc_up (zb_ne.mp hc164))).symm) K191)
                | exact zV.less (L' := [some (.ref x), some (.int (nI k9)), some (.int (zCon σ k9)), some (.int (nI j)), some (.int (1)), none, some (.int (zb (zHc σ k9 (i)))), some (.int (nI (i))), none]) ⟨rfl, rfl, rfl, rfl, rfl, rfl, rfl, trivial⟩ (zV.top ((zb_t (zHc_yes ⟨zbp hc173, Classical.not_not.mp hc183⟩)).symm) K191)
                | exact zV.less (L' := [some (.ref x), some (.int (nI k9)), some (.int (zCon σ k9)), some (.int (nI j)), some (.int (1)), none, some (.int (zb (zHc σ k9 (i)))), some (.int (nI (i))), none]) ⟨rfl, rfl, rfl, rfl, rfl, rfl, rfl, trivial⟩ (zV.top ((zb_f (zHc_no (fun y => hc164 (zb_ne.mpr y)) (fun y => zb_eq.mp hc173 y.1))).symm) K191)
                | exact zV.less (L' := [some (.ref x), some (.int (nI k9)), some (.int (zCon σ k9)), some (.int (nI j)), some (.int (1)), none, some (.int (zb (zHc σ k9 (i)))), some (.int (nI (i))), none]) ⟨rfl, rfl, rfl, rfl, rfl, rfl, rfl, trivial⟩ (zV.top ((zb_f (zHc_no (fun y => hc164 (zb_ne.mpr y)) (fun y => hc183 y.2))).symm) K191)
  have hstart : ¬ zHc σ k9 2 := fun z => z (fun c hc2 hcc => by
    have hc01 : c = 0 ∨ c = 1 := by omega
    rcases hc01 with y | y
    · rw [y] at hcc; exact hcc.1 hW.z
    · have h2 := hcc.2
      rw [y, hW.x.2.1] at h2
      exact znm1 hk h2.symm)
  have K142 : zV p l e ({ frames := 5, cells := 0, slots := 0, locals := 150 } : Room) s m args below meth c D (zA G s.heap.size) 0 0 (zZ below D G (fun v G9 => v = some (.int 1) ∧ G9 = G) args s ({ frames := 5, cells := 0, slots := 0, locals := 150 } : Room)) G 142 [some (.ref x), some (.int (nI k9)), some (.int (zCon σ k9)), some (.int (nI j)), some (.int (1)), none, none, none, none] [] := by
    refine zz_iconst (pc := 142) C (v := 1) (by decide) dL_isSound_142 ?_
    refine zz_goto (pc := 143) C (tgt := 147) dL_isSound_143 (by decide) ?_
    refine zz_istore (pc := 147) C dL_isSound_147 (Nat.le_of_ble_eq_true rfl) ?_
    refine zV.less (L' := [some (.ref (x)), some (.int (nI k9)), some (.int (zCon σ k9)), some (.int (nI j)), some (.int (1)), none, none, none, none]) ⟨rfl, rfl, rfl, rfl, rfl, trivial⟩ ?_
    refine zz_iconst (pc := 149) C (v := 0) (by decide) dL_isSound_149 ?_
    refine zz_istore (pc := 150) C dL_isSound_150 (Nat.le_of_ble_eq_true rfl) ?_
    refine zV.less (L' := [some (.ref (x)), some (.int (nI k9)), some (.int (zCon σ k9)), some (.int (nI j)), some (.int (1)), none, some (.int (0)), none, none]) ⟨rfl, rfl, rfl, rfl, rfl, rfl, trivial⟩ ?_
    refine zz_iconst (pc := 152) C (v := 2) (by decide) dL_isSound_152 ?_
    refine zz_istore (pc := 153) C dL_isSound_153 (Nat.le_of_ble_eq_true rfl) ?_
    refine zV.less (L' := [some (.ref (x)), some (.int (nI k9)), some (.int (zCon σ k9)), some (.int (nI j)), some (.int (1)), none, some (.int (0)), some (.int (2)), none]) ⟨rfl, rfl, rfl, rfl, rfl, rfl, rfl, trivial⟩ ?_
    exact zV.less (L' := [some (.ref x), some (.int (nI k9)), some (.int (zCon σ k9)), some (.int (nI j)), some (.int (1)), none, some (.int (zb (zHc σ k9 (2)))), some (.int (nI (2))), none]) ⟨rfl, rfl, rfl, rfl, rfl, zvi (zb_f hstart).symm, rfl, trivial⟩ (loop 39 2 rfl (by omega))
  have K127 : zV p l e ({ frames := 5, cells := 0, slots := 0, locals := 150 } : Room) s m args below meth c D (zA G s.heap.size) 0 0 (zZ below D G (fun v G9 => v = some (.int 1) ∧ G9 = G) args s ({ frames := 5, cells := 0, slots := 0, locals := 150 } : Room)) G 127 [some (.ref x), some (.int (nI k9)), some (.int (zCon σ k9)), some (.int (nI j)), some (.int (1)), some (.int (σ 11 k9)), none, none, none] [] := by
    refine zz_iload_n (pc := 127) C dL_isSound_127 rfl ?_
    refine zz_iconst (pc := 128) C (v := 2) (by decide) dL_isSound_128 ?_
    refine zz_icmp_ne (pc := 129) C (tgt := 142) dL_isSound_129 (by decide) (fun hc129 => ?_) (fun hc129 => ?_)
    · exact zV.less (L' := [some (.ref x), some (.int (nI k9)), some (.int (zCon σ k9)), some (.int (nI j)), some (.int (1)), none, none, none, none]) ⟨rfl, rfl, rfl, rfl, rfl, trivial⟩ K142
    · refine zz_iload (pc := 132) C dL_isSound_132 rfl ?_
      refine zz_bipush (pc := 134) C (v := 7) (by decide) dL_isSound_134 ?_
      refine zz_ishr (pc := 136) C dL_isSound_136 ?_
      refine zz_iconst (pc := 137) C (v := 1) (by decide) dL_isSound_137 ?_
      refine zz_iand (pc := 138) C dL_isSound_138 ?_
      refine zz_if_ne (pc := 139) C (tgt := 146) dL_isSound_139 (by decide) (fun hc139 => ?_) (fun hc139 => ?_)
      · exact absurd ((zshr0 (s := 7) (by decide)).mpr (hP.2.2.1 (zCon_2.mp (Classical.not_not.mp hc129)).2).1) hc139
      · exact zV.less (L' := [some (.ref x), some (.int (nI k9)), some (.int (zCon σ k9)), some (.int (nI j)), some (.int (1)), none, none, none, none]) ⟨rfl, rfl, rfl, rfl, rfl, trivial⟩ K142
  have K93 : zV p l e ({ frames := 5, cells := 0, slots := 0, locals := 150 } : Room) s m args below meth c D (zA G s.heap.size) 0 0 (zZ below D G (fun v G9 => v = some (.int 1) ∧ G9 = G) args s ({ frames := 5, cells := 0, slots := 0, locals := 150 } : Room)) G 93 [some (.ref x), some (.int (nI k9)), some (.int (zCon σ k9)), some (.int (nI j)), some (.int (1)), some (.int (σ 11 k9)), none, none, none] [] := by
    refine zz_iload (pc := 93) C dL_isSound_93 rfl ?_
    refine zz_sipush (pc := 95) C (v := 192) (by decide) dL_isSound_95 ?_
    refine zz_iand (pc := 98) C dL_isSound_98 ?_
    refine zz_sipush (pc := 99) C (v := 192) (by decide) dL_isSound_99 ?_
    refine zz_icmp_eq (pc := 102) C (tgt := 109) dL_isSound_102 (by decide) (fun hc102 => ?_) (fun hc102 => ?_)
    · exact absurd hc102 (z192 hP.2.1)
    · refine zz_iconst (pc := 105) C (v := 1) (by decide) dL_isSound_105 ?_
      refine zz_goto (pc := 106) C (tgt := 110) dL_isSound_106 (by decide) ?_
      refine zz_istore (pc := 110) C dL_isSound_110 (Nat.le_of_ble_eq_true rfl) ?_
      refine zV.less (L' := [some (.ref (x)), some (.int (nI k9)), some (.int (zCon σ k9)), some (.int (nI j)), some (.int (1)), some (.int (σ 11 k9)), none, none, none]) ⟨rfl, rfl, rfl, rfl, rfl, rfl, trivial⟩ ?_
      refine zz_iload (pc := 112) C dL_isSound_112 rfl ?_
      refine zz_if_eq (pc := 114) C (tgt := 146) dL_isSound_114 (by decide) (fun hc114 => ?_) (fun hc114 => ?_)
      · exact absurd hc114 (by decide)
      · refine zz_iload_n (pc := 117) C dL_isSound_117 rfl ?_
        refine zz_iconst (pc := 118) C (v := 3) (by decide) dL_isSound_118 ?_
        refine zz_icmp_ne (pc := 119) C (tgt := 127) dL_isSound_119 (by decide) (fun hc119 => ?_) (fun hc119 => ?_)
        · exact zV.less (L' := [some (.ref x), some (.int (nI k9)), some (.int (zCon σ k9)), some (.int (nI j)), some (.int (1)), some (.int (σ 11 k9)), none, none, none]) ⟨rfl, rfl, rfl, rfl, rfl, rfl, trivial⟩ K127
        · refine zz_iload_n (pc := 122) C dL_isSound_122 rfl ?_
          refine zz_iconst (pc := 123) C (v := 1) (by decide) dL_isSound_123 ?_
          refine zz_icmp_eq (pc := 124) C (tgt := 146) dL_isSound_124 (by decide) (fun hc124 => ?_) (fun hc124 => ?_)
          · exact absurd (hI.2.2.2.2.1 k9 h0 (zCon_3.mp (Classical.not_not.mp hc119)) (j1.trans hc124)) List.not_mem_nil
          · exact zV.less (L' := [some (.ref x), some (.int (nI k9)), some (.int (zCon σ k9)), some (.int (nI j)), some (.int (1)), some (.int (σ 11 k9)), none, none, none]) ⟨rfl, rfl, rfl, rfl, rfl, rfl, trivial⟩ K127
  refine zz_aload_n (pc := 0) C dL_isSound_0 rfl ?_
  refine zz_iload_n (pc := 1) C dL_isSound_1 rfl ?_
  refine zz_callV (pc := 2) C (q_state l D hC (by omega) hk h0) gL_isSound_X2_state rfl 1 (by decide +kernel) ⟨Nat.le_of_ble_eq_true rfl, Nat.le_of_ble_eq_true rfl⟩ hC.x (ci := 2) rfl rfl rfl dL_isSound_2 rfl (Nat.le_of_ble_eq_true rfl) rfl ⟨Nat.le_of_ble_eq_true rfl, Nat.le_of_ble_eq_true rfl⟩ ?_
  rintro v G9 ⟨rfl, rfl⟩
  refine zz_istore_n (pc := 5) C dL_isSound_5 (Nat.le_of_ble_eq_true rfl) ?_
  refine zV.less (L' := [some (.ref (x)), some (.int (nI k9)), some (.int (zCon σ k9)), none, none, none, none, none, none]) ⟨rfl, rfl, rfl, trivial⟩ ?_
  refine zz_aload_n (pc := 6) C dL_isSound_6 rfl ?_
  refine zz_iload_n (pc := 7) C dL_isSound_7 rfl ?_
  refine zz_callV (pc := 8) C (q_parentN l D hC hW (by omega) hk h0 j1) gL_isSound_X2_parent rfl 1 (by decide +kernel) ⟨Nat.le_of_ble_eq_true rfl, Nat.le_of_ble_eq_true rfl⟩ hC.x (ci := 2) rfl rfl rfl dL_isSound_8 rfl (Nat.le_of_ble_eq_true rfl) rfl ⟨Nat.le_of_ble_eq_true rfl, Nat.le_of_ble_eq_true rfl⟩ ?_
  rintro v G9 ⟨rfl, rfl⟩
  refine zz_istore_n (pc := 11) C dL_isSound_11 (Nat.le_of_ble_eq_true rfl) ?_
  refine zV.less (L' := [some (.ref (x)), some (.int (nI k9)), some (.int (zCon σ k9)), some (.int (nI j)), none, none, none, none, none]) ⟨rfl, rfl, rfl, rfl, trivial⟩ ?_
  refine zz_aload_n (pc := 12) C dL_isSound_12 rfl ?_
  refine zz_iload_n (pc := 13) C dL_isSound_13 rfl ?_
  refine zz_callV (pc := 14) C (q_exists l D hC j2 j3) gL_isSound_X2_exists rfl 1 (by decide +kernel) ⟨Nat.le_of_ble_eq_true rfl, Nat.le_of_ble_eq_true rfl⟩ hC.x (ci := 2) rfl rfl rfl dL_isSound_14 rfl (Nat.le_of_ble_eq_true rfl) rfl ⟨Nat.le_of_ble_eq_true rfl, Nat.le_of_ble_eq_true rfl⟩ ?_
  rintro v G9 ⟨rfl, rfl⟩
  refine zz_if_eq (pc := 17) C (tgt := 47) dL_isSound_17 (by decide) (fun hc17 => ?_) (fun hc17 => ?_)
  · exact False.elim (zb_eq.mp hc17 j5)
  · refine zz_iload_n (pc := 20) C dL_isSound_20 rfl ?_
    refine zz_iload_n (pc := 21) C dL_isSound_21 rfl ?_
    refine zz_icmp_eq (pc := 22) C (tgt := 47) dL_isSound_22 (by decide) (fun hc22 => ?_) (fun hc22 => ?_)
    · exact absurd ((nI_eq (by omega) (by omega)).mp hc22) j4
    · refine zz_aload_n (pc := 25) C dL_isSound_25 rfl ?_
      refine zz_iload_n (pc := 26) C dL_isSound_26 rfl ?_
      refine zz_callV (pc := 27) C (q_state l D hC j2 j3 j5) gL_isSound_X2_state rfl 1 (by decide +kernel) ⟨Nat.le_of_ble_eq_true rfl, Nat.le_of_ble_eq_true rfl⟩ hC.x (ci := 2) rfl rfl rfl dL_isSound_27 rfl (Nat.le_of_ble_eq_true rfl) rfl ⟨Nat.le_of_ble_eq_true rfl, Nat.le_of_ble_eq_true rfl⟩ ?_
      rintro v G9 ⟨rfl, rfl⟩
      refine zz_iconst (pc := 30) C (v := 3) (by decide) dL_isSound_30 ?_
      refine zz_icmp_eq (pc := 31) C (tgt := 47) dL_isSound_31 (by decide) (fun hc31 => ?_) (fun hc31 => ?_)
      · exact absurd j6 (zCon_3.mp hc31)
      · refine zz_iload_n (pc := 34) C dL_isSound_34 rfl ?_
        refine zz_if_lt (pc := 35) C (tgt := 47) dL_isSound_35 (by decide) (fun hc35 => ?_) (fun hc35 => ?_)
        · exact absurd hc35 (zCon_r σ k9).1
        · refine zz_iload_n (pc := 38) C dL_isSound_38 rfl ?_
          refine zz_iconst (pc := 39) C (v := 4) (by decide) dL_isSound_39 ?_
          refine zz_icmp_ge (pc := 40) C (tgt := 47) dL_isSound_40 (by decide) (fun hc40 => ?_) (fun hc40 => ?_)
          · exact absurd hc40 (zCon_r σ k9).2
          · refine zz_iconst (pc := 43) C (v := 1) (by decide) dL_isSound_43 ?_
            refine zz_goto (pc := 44) C (tgt := 48) dL_isSound_44 (by decide) ?_
            refine zz_istore (pc := 48) C dL_isSound_48 (Nat.le_of_ble_eq_true rfl) ?_
            refine zV.less (L' := [some (.ref (x)), some (.int (nI k9)), some (.int (zCon σ k9)), some (.int (nI j)), some (.int (1)), none, none, none, none]) ⟨rfl, rfl, rfl, rfl, rfl, trivial⟩ ?_
            refine zz_aload_n (pc := 50) C dL_isSound_50 rfl ?_
            refine zz_iload_n (pc := 51) C dL_isSound_51 rfl ?_
            refine zz_callV (pc := 52) C (q_pending l D hC (by omega) hk h0) gL_isSound_X2_pending rfl 1 (by decide +kernel) ⟨Nat.le_of_ble_eq_true rfl, Nat.le_of_ble_eq_true rfl⟩ hC.x (ci := 2) rfl rfl rfl dL_isSound_52 rfl (Nat.le_of_ble_eq_true rfl) rfl ⟨Nat.le_of_ble_eq_true rfl, Nat.le_of_ble_eq_true rfl⟩ ?_
            rintro v G9 ⟨rfl, rfl⟩
            refine zz_istore (pc := 55) C dL_isSound_55 (Nat.le_of_ble_eq_true rfl) ?_
            refine zV.less (L' := [some (.ref (x)), some (.int (nI k9)), some (.int (zCon σ k9)), some (.int (nI j)), some (.int (1)), some (.int (σ 11 k9)), none, none, none]) ⟨rfl, rfl, rfl, rfl, rfl, rfl, trivial⟩ ?_
            refine zz_iload (pc := 57) C dL_isSound_57 rfl ?_
            refine zz_if_eq (pc := 59) C (tgt := 109) dL_isSound_59 (by decide) (fun hc59 => ?_) (fun hc59 => ?_)
            · exact absurd hc59 (by decide)
            · refine zz_iload (pc := 62) C dL_isSound_62 rfl ?_
              refine zz_bipush (pc := 64) C (v := 36) (by decide) dL_isSound_64 ?_
              refine zz_iand (pc := 66) C dL_isSound_66 ?_
              refine zz_if_ne (pc := 67) C (tgt := 109) dL_isSound_67 (by decide) (fun hc67 => ?_) (fun hc67 => ?_)
              · exact absurd (z36 hP.2.1) hc67
              · refine zz_iload (pc := 70) C dL_isSound_70 rfl ?_
                refine zz_sipush (pc := 72) C (v := 512) (by decide) dL_isSound_72 ?_
                refine zz_icmp_ge (pc := 75) C (tgt := 109) dL_isSound_75 (by decide) (fun hc75 => ?_) (fun hc75 => ?_)
                · exact absurd hc75 (zL512 hv)
                · refine zz_iload (pc := 78) C dL_isSound_78 rfl ?_
                  refine zz_if_lt (pc := 80) C (tgt := 109) dL_isSound_80 (by decide) (fun hc80 => ?_) (fun hc80 => ?_)
                  · exact absurd hc80 (zNN hv)
                  · refine zz_iload_n (pc := 83) C dL_isSound_83 rfl ?_
                    refine zz_iconst (pc := 84) C (v := 3) (by decide) dL_isSound_84 ?_
                    refine zz_icmp_ne (pc := 85) C (tgt := 93) dL_isSound_85 (by decide) (fun hc85 => ?_) (fun hc85 => ?_)
                    · exact zV.less (L' := [some (.ref x), some (.int (nI k9)), some (.int (zCon σ k9)), some (.int (nI j)), some (.int (1)), some (.int (σ 11 k9)), none, none, none]) ⟨rfl, rfl, rfl, rfl, rfl, rfl, trivial⟩ K93
                    · refine zz_iload (pc := 88) C dL_isSound_88 rfl ?_
                      refine zz_if_ne (pc := 90) C (tgt := 109) dL_isSound_90 (by decide) (fun hc90 => ?_) (fun hc90 => ?_)
                      · exact absurd (hP.1 (zCon_3.mp (Classical.not_not.mp hc85))).1 hc90
                      · exact zV.less (L' := [some (.ref x), some (.int (nI k9)), some (.int (zCon σ k9)), some (.int (nI j)), some (.int (1)), some (.int (σ 11 k9)), none, none, none]) ⟨rfl, rfl, rfl, rfl, rfl, rfl, trivial⟩ K93
