abbrev zWset (σ : zS) (p : Nat) (c f : Int32) : zS := zu (zu (zu σ 6 p 1) 7 p c) 8 p f
abbrev zIsIn (σ : zS) (g ss : Int32) (n : Nat) : Prop := ¬ ∀ k, k < n → ¬ (zMem σ k g ∧ σ 3 k = ss)
theorem zIsIn_succ {σ : zS} {g ss : Int32} {n : Nat} : zIsIn σ g ss (n + 1) ↔ zIsIn σ g ss n ∨ (zMem σ n g ∧ σ 3 n = ss) := by
  unfold zIsIn
  rw [zAll_succ]
  constructor
  · intro h
    by_cases h2 : zMem σ n g ∧ σ 3 n = ss
    · exact Or.inr h2
    · exact Or.inl (fun q => h ⟨q, h2⟩)
  · rintro (h | h) q
    · exact h q.1
    · exact q.2 h
abbrev zIsGrp (σ : zS) (g : Int32) (n : Nat) : Prop := ¬ ∀ k, k < n → ¬ (σ 0 k ≠ 0 ∧ σ 2 k = g)
theorem zIsGrp_succ {σ : zS} {g : Int32} {n : Nat} : zIsGrp σ g (n + 1) ↔ zIsGrp σ g n ∨ (σ 0 n ≠ 0 ∧ σ 2 n = g) := by
  unfold zIsGrp
  rw [zAll_succ]
  constructor
  · intro h
    by_cases h2 : σ 0 n ≠ 0 ∧ σ 2 n = g
    · exact Or.inr h2
    · exact Or.inl (fun q => h ⟨q, h2⟩)
  · rintro (h | h) q
    · exact h q.1
    · exact q.2 h
abbrev zPoss (σ : zS) (p t : Nat) (g : Int32) : Prop := (t = p ∨ σ 1 t = nI p) ∧ σ 4 t = 0 ∧ σ 3 t ≠ nI t ∧ σ 3 t = σ 3 p ∧ (g = nI t ∨ zIsIn σ g (σ 3 p) 41)
abbrev zFin (N : Nat) (x : zS × List zEv) : zS := zGo N x.1 x.2
theorem zb1 {v : Int32} (h : v = 0 ∨ v = 1) : narrow .boolean (.int v) = .int v := by rcases h with rfl | rfl <;> rfl
theorem zIsIn_ag {r s : zS} (h : zAg r s) {g ss : Int32} {n : Nat} : zIsIn r g ss n ↔ zIsIn s g ss n := by
  unfold zIsIn
  simp only [zMem_ag h, h 3 (by decide)]
theorem c_xcheck (l : Launch) (D : va_G) {B G : zG} {y : Nat} {ma : Nat → Nat} {r σ : zS} {q : List zEv} {x : Int32} (hR : zModR B y ma r G) (hag : zAg r σ) (h00 : σ 0 0 = 0) (hx : x = nI (pn x) ∧ 1 ≤ pn x ∧ pn x < 41) (hring : zRing r q) : zMet D l yX3_checks wsX3_checks ({ frames := 1, cells := 0, slots := 0, locals := 24 } : Room) [.ref y, .int x] G (fun v G9 => v = none ∧ ∃ r2, zModR B y ma r2 G9 ∧ zAg r2 (zCheck σ (pn x)) ∧ r2 23 = r 23 ∧ zRing r2 q) := by
  have h := c_mcheck l D (p9 := pn x) hR hag h00 hx.2.2 hring
  rw [← hx.1] at h
  exact h
theorem c_xterm (l : Launch) (D : va_G) {B G : zG} {y : Nat} {ma : Nat → Nat} {r σ : zS} {q : List zEv} {x : Int32} {how w : Int32} (hR : zModR B y ma r G) (hag : zAg r σ) (hx : x = nI (pn x) ∧ 1 ≤ pn x ∧ pn x < 41) (hL : zLv σ (pn x)) (hring : zRing r q) (hroom : q.length + 300 < 8192) : zMet D l yX3_terminates wsX3_terminates ({ frames := 2, cells := 0, slots := 0, locals := 47 } : Room) [.ref y, .int x, .int how, .int w] G (fun v G9 => v = none ∧ ∃ r2, zModR B y ma r2 G9 ∧ zAg r2 (zTerm (σ, q) (pn x) how w).1 ∧ r2 23 = r 23 ∧ zRing r2 (zTerm (σ, q) (pn x) how w).2) := by
  have h := c_mterm l D (p9 := pn x) (how := how) (w := w) hR hag hL hring hroom
  rw [← hx.1] at h
  exact h
theorem c_xdel (l : Launch) (D : va_G) {B G : zG} {y : Nat} {ma : Nat → Nat} {r σ : zS} {q : List zEv} {x : Int32} (hR : zModR B y ma r G) (hag : zAg r σ) (hx : x = nI (pn x) ∧ 1 ≤ pn x ∧ pn x < 41) (h00 : σ 0 0 = 0) (hL : σ 4 (pn x) = 0 → zLv σ (pn x)) (h511 : σ 11 (pn x) &&& 511 = σ 11 (pn x)) (hring : zRing r q) (hroom : q.length + 300 < 8192) : zMet D l yX3_delivers wsX3_delivers ({ frames := 4, cells := 0, slots := 0, locals := 95 } : Room) [.ref y, .int x] G (fun v G9 => v = none ∧ ∃ r2, zModR B y ma r2 G9 ∧ zAg r2 (zDel (σ, q) (pn x)).1 ∧ r2 23 = r 23 ∧ zRing r2 (zDel (σ, q) (pn x)).2) := by
  have h := c_X3_delivers l D (p9 := pn x) hR hag hx.2 h00 hL h511 hring (fun _ _ => hroom)
  rw [← hx.1] at h
  exact h
theorem fl_X3_waits_29 : Cond.fieldLink RX3 29 "SignalpostModel" "isWaiting" "[Z" ∈ wsX3_waits := by decide +kernel
theorem fl_X3_waits_32 : Cond.fieldLink RX3 32 "SignalpostModel" "awaited" "[I" ∈ wsX3_waits := by decide +kernel
theorem fl_X3_waits_35 : Cond.fieldLink RX3 35 "SignalpostModel" "forStops" "[Z" ∈ wsX3_waits := by decide +kernel
theorem in_X3_waits_X3 : ∀ w ∈ u_ws RX3 TX3 29, w ∈ wsX3_waits := by decide +kernel
set_option maxHeartbeats 4000000 in
set_option maxRecDepth 100000 in
theorem c_X3_waits (l : Launch) (D : va_G) {B G : zG} {y : Nat} {ma : Nat → Nat} {r : zS} {σ : zS} {x c9 f9 : Int32} (hR : zModR B y ma r G) (hag : zAg r σ) (hring : zRing r []) (hx : x = nI (pn x) ∧ 1 ≤ pn x ∧ pn x < 41) (h00 : σ 0 0 = 0) (hf : vp_nar .boolean f9 = f9) : zMet D l yX3_waits wsX3_waits ({ frames := 2, cells := 0, slots := 0, locals := 49 } : Room) [.ref y, .int x, .int c9, .int f9] G (fun v G9 => v = some (.int (zb ((zCheck (zWset σ (pn x) c9 f9) (pn x)) 6 (pn x) = 0))) ∧ ∃ r2, zModR B y ma r2 G9 ∧ zAg r2 (zCheck (zWset σ (pn x) c9 f9) (pn x)) ∧ r2 23 = r 23 ∧ zRing r2 []) := by
  refine zMet_of (cc := cX3_waits) (maxL := 4) (ret := (some .boolean)) (by decide) rfl (Nat.le_of_ble_eq_true rfl) ?_
  intro p e s m args below meth c C hmn
  refine zz_aload_n (pc := 0) C dX3_waits_0 rfl ?_
  refine zz_get (pc := 1) C in_X3_waits_X3 (ci := 3) rfl 6 (by decide) (fl_X3_waits_29) rfl dX3_waits_1 hR.2.1 rfl ?_
  refine zz_iload_n (pc := 4) C dX3_waits_4 rfl ?_
  refine zz_iconst (pc := 5) C (v := 1) (by decide) dX3_waits_5 ?_
  refine zz_mstz (pc := 6) C hR 6 (by decide) rfl dX3_waits_6 hx.1 (by show _ < 41; have := hx.2.2; omega) (by first | rfl | exact zb_vp) (fun G hR => ?_)
  refine zz_aload_n (pc := 7) C dX3_waits_7 rfl ?_
  refine zz_get (pc := 8) C in_X3_waits_X3 (ci := 3) rfl 7 (by decide) (fl_X3_waits_32) rfl dX3_waits_8 hR.2.1 rfl ?_
  refine zz_iload_n (pc := 11) C dX3_waits_11 rfl ?_
  refine zz_iload_n (pc := 12) C dX3_waits_12 rfl ?_
  refine zz_mst (pc := 13) C hR 7 (by decide) rfl dX3_waits_13 hx.1 (by show _ < 41; have := hx.2.2; omega) (fun G hR => ?_)
  refine zz_aload_n (pc := 14) C dX3_waits_14 rfl ?_
  refine zz_get (pc := 15) C in_X3_waits_X3 (ci := 3) rfl 8 (by decide) (fl_X3_waits_35) rfl dX3_waits_15 hR.2.1 rfl ?_
  refine zz_iload_n (pc := 18) C dX3_waits_18 rfl ?_
  refine zz_iload_n (pc := 19) C dX3_waits_19 rfl ?_
  refine zz_mstz (pc := 20) C hR 8 (by decide) rfl dX3_waits_20 hx.1 (by show _ < 41; have := hx.2.2; omega) hf (fun G hR => ?_)
  refine zz_aload_n (pc := 21) C dX3_waits_21 rfl ?_
  refine zz_iload_n (pc := 22) C dX3_waits_22 rfl ?_
  refine zz_callV (pc := 23) C (c_xcheck l D hR (σ := zWset σ (pn x) c9 f9) (zAg_zu (zAg_zu (zAg_zu hag))) h00 hx (hring.ag rfl rfl rfl)) gX3_waits_X3_checks rfl 1 (by decide +kernel) ⟨Nat.le_of_ble_eq_true rfl, Nat.le_of_ble_eq_true rfl⟩ hR.2.1 (ci := 3) rfl rfl rfl dX3_waits_23 rfl (Nat.le_of_ble_eq_true rfl) rfl ⟨Nat.le_of_ble_eq_true rfl, Nat.le_of_ble_eq_true rfl⟩ ?_
  rintro v G9 ⟨rfl, r2, hR, hag2, h232, hring2⟩
  refine zz_aload_n (pc := 26) C dX3_waits_26 rfl ?_
  refine zz_get (pc := 27) C in_X3_waits_X3 (ci := 3) rfl 6 (by decide) (fl_X3_waits_29) rfl dX3_waits_27 hR.2.1 rfl ?_
  refine zz_iload_n (pc := 30) C dX3_waits_30 rfl ?_
  refine zz_mldz (pc := 31) C hR 6 (by decide) rfl dX3_waits_31 hx.1 (by show _ < 41; have := hx.2.2; omega) ?_
  refine zz_if_ne (pc := 32) C (tgt := 39) dX3_waits_32 (by decide) (fun hc32 => ?_) (fun hc32 => ?_)
  · refine zz_iconst (pc := 39) C (v := 0) (by decide) dX3_waits_39 ?_
    exact zz_ireturn (pc := 40) C dX3_waits_40 (by decide) (Nat.le_refl _) (Nat.le_refl _) ⟨by first | exact zvt (by rw [← hag2 6 (by decide)]; exact Classical.not_not.mp hc32) | exact zvf (by rw [← hag2 6 (by decide)]; exact hc32), r2, hR, hag2, h232, hring2⟩
  · refine zz_iconst (pc := 35) C (v := 1) (by decide) dX3_waits_35 ?_
    refine zz_goto (pc := 36) C (tgt := 40) dX3_waits_36 (by decide) ?_
    exact zz_ireturn (pc := 40) C dX3_waits_40 (by decide) (Nat.le_refl _) (Nat.le_refl _) ⟨by first | exact zvt (by rw [← hag2 6 (by decide)]; exact Classical.not_not.mp hc32) | exact zvf (by rw [← hag2 6 (by decide)]; exact hc32), r2, hR, hag2, h232, hring2⟩

set_option maxHeartbeats 4000000 in
set_option maxRecDepth 100000 in
theorem c_X3_waitAny (l : Launch) (D : va_G) {B G : zG} {y : Nat} {ma : Nat → Nat} {r : zS} {σ : zS} {x f9 : Int32} (hR : zModR B y ma r G) (hag : zAg r σ) (hring : zRing r []) (h00 : σ 0 0 = 0) (hf : vp_nar .boolean f9 = f9) : zMet D l yX3_waitAny wsX3_waitAny ({ frames := 3, cells := 0, slots := 0, locals := 72 } : Room) [.ref y, .int x, .int f9] G (fun v G9 => v = some (.int (if zE2 (¬ zHere σ x) (zNot σ (pn x)) = 0 then zb ((zCheck (zWset σ (pn x) (-1) f9) (pn x)) 6 (pn x) = 0) else 0)) ∧ zMod B y ma (if zE2 (¬ zHere σ x) (zNot σ (pn x)) = 0 then zCheck (zWset σ (pn x) (-1) f9) (pn x) else σ) [] (zE2 (¬ zHere σ x) (zNot σ (pn x))) G9) := by
  refine zMet_of (cc := cX3_waitAny) (maxL := 3) (ret := (some .boolean)) (by decide) rfl (Nat.le_of_ble_eq_true rfl) ?_
  intro p e s m args below meth c C hmn
  obtain ⟨t9, rfl⟩ : ∃ t9, r = zMix σ t9 := ⟨r, zMix_of hag⟩
  have k0 : zE2 (¬ zHere σ x) (zNot σ (pn x)) = 0 → zV p l e ({ frames := 3, cells := 0, slots := 0, locals := 72 } : Room) s m args below meth c D (zA G s.heap.size) 0 0 (zZ below D G (fun v G9 => v = some (.int (if zE2 (¬ zHere σ x) (zNot σ (pn x)) = 0 then zb ((zCheck (zWset σ (pn x) (-1) f9) (pn x)) 6 (pn x) = 0) else 0)) ∧ zMod B y ma (if zE2 (¬ zHere σ x) (zNot σ (pn x)) = 0 then zCheck (zWset σ (pn x) (-1) f9) (pn x) else σ) [] (zE2 (¬ zHere σ x) (zNot σ (pn x))) G9) args s ({ frames := 3, cells := 0, slots := 0, locals := 72 } : Room)) G 26 [some (.ref y), some (.int x), some (.int f9)] [.int 0, .ref y] := by
    intro hT
    have hH : zHere σ x := Classical.not_not.mp (zE2_z hT).1
    have hx := hH.at
    have hnot : ¬ zNot σ (pn x) := (zE2_z hT).2
    refine zz_callV (pc := 26) C (c_X3_fails l D hR (w := 0)) gX3_waitAny_X3_fails rfl 1 (by decide +kernel) ⟨Nat.le_of_ble_eq_true rfl, Nat.le_of_ble_eq_true rfl⟩ hR.2.1 (ci := 3) rfl rfl rfl dX3_waitAny_26 rfl (Nat.le_of_ble_eq_true rfl) rfl ⟨Nat.le_of_ble_eq_true rfl, Nat.le_of_ble_eq_true rfl⟩ ?_
    rintro v G9 ⟨rfl, hR⟩
    have hag : zAg (zu (zMix σ t9) 23 0 0) σ := zAg_off hag (by decide)
    have hring : zRing (zu (zMix σ t9) 23 0 0) [] := hring.ag rfl rfl rfl
    have h23 : (zu (zMix σ t9) 23 0 0) 23 0 = 0 := zu_self
    refine zz_if_ne (pc := 29) C (tgt := 46) dX3_waitAny_29 (by decide) (fun hc29 => ?_) (fun hc29 => ?_)
    · exact (z02 hc29).elim
    · refine zz_aload_n (pc := 32) C dX3_waitAny_32 rfl ?_
      refine zz_iload_n (pc := 33) C dX3_waitAny_33 rfl ?_
      refine zz_iconst (pc := 34) C (v := -1) (by decide) dX3_waitAny_34 ?_
      refine zz_iload_n (pc := 35) C dX3_waitAny_35 rfl ?_
      refine zz_callV (pc := 36) C (c_X3_waits l D hR (σ := σ) (x := x) (c9 := (-1)) (f9 := f9) hag hring hx h00 hf) gX3_waitAny_X3_waits rfl 3 (by decide +kernel) ⟨Nat.le_of_ble_eq_true rfl, Nat.le_of_ble_eq_true rfl⟩ hR.2.1 (ci := 3) rfl rfl rfl dX3_waitAny_36 rfl (Nat.le_of_ble_eq_true rfl) rfl ⟨Nat.le_of_ble_eq_true rfl, Nat.le_of_ble_eq_true rfl⟩ ?_
      rintro v G9 ⟨rfl, r2, hR, hag2, h232, hring2⟩
      refine zz_if_eq (pc := 39) C (tgt := 46) dX3_waitAny_39 (by decide) (fun hc39 => ?_) (fun hc39 => ?_)
      · refine zz_iconst (pc := 46) C (v := 0) (by decide) dX3_waitAny_46 ?_
        exact zz_ireturn (pc := 47) C dX3_waitAny_47 (by decide) (Nat.le_refl _) (Nat.le_refl _) ⟨zvok hT (by first | exact z1b (zbp hc39) | exact z0b (zb_eq.mp hc39)), zMod.ok hT hR hag2 ((congrFun h232 0).trans h23) hring2⟩
      · refine zz_iconst (pc := 42) C (v := 1) (by decide) dX3_waitAny_42 ?_
        refine zz_goto (pc := 43) C (tgt := 47) dX3_waitAny_43 (by decide) ?_
        exact zz_ireturn (pc := 47) C dX3_waitAny_47 (by decide) (Nat.le_refl _) (Nat.le_refl _) ⟨zvok hT (by first | exact z1b (zbp hc39) | exact z0b (zb_eq.mp hc39)), zMod.ok hT hR hag2 ((congrFun h232 0).trans h23) hring2⟩
  have k1 : ∀ w9 : Int32, zE2 (¬ zHere σ x) (zNot σ (pn x)) = w9 → 0 < w9 → zV p l e ({ frames := 3, cells := 0, slots := 0, locals := 72 } : Room) s m args below meth c D (zA G s.heap.size) 0 0 (zZ below D G (fun v G9 => v = some (.int (if zE2 (¬ zHere σ x) (zNot σ (pn x)) = 0 then zb ((zCheck (zWset σ (pn x) (-1) f9) (pn x)) 6 (pn x) = 0) else 0)) ∧ zMod B y ma (if zE2 (¬ zHere σ x) (zNot σ (pn x)) = 0 then zCheck (zWset σ (pn x) (-1) f9) (pn x) else σ) [] (zE2 (¬ zHere σ x) (zNot σ (pn x))) G9) args s ({ frames := 3, cells := 0, slots := 0, locals := 72 } : Room)) G 26 [some (.ref y), some (.int x), some (.int f9)] [.int w9, .ref y] := by
    intro w9 hT hw9
    refine zz_callV (pc := 26) C (c_X3_fails l D hR (w := w9)) gX3_waitAny_X3_fails rfl 1 (by decide +kernel) ⟨Nat.le_of_ble_eq_true rfl, Nat.le_of_ble_eq_true rfl⟩ hR.2.1 (ci := 3) rfl rfl rfl dX3_waitAny_26 rfl (Nat.le_of_ble_eq_true rfl) rfl ⟨Nat.le_of_ble_eq_true rfl, Nat.le_of_ble_eq_true rfl⟩ ?_
    rintro v G9 ⟨rfl, hR⟩
    have hag : zAg (zu (zMix σ t9) 23 0 w9) σ := zAg_off hag (by decide)
    have hring : zRing (zu (zMix σ t9) 23 0 w9) [] := hring.ag rfl rfl rfl
    have h23 : (zu (zMix σ t9) 23 0 w9) 23 0 = w9 := zu_self
    refine zz_if_ne (pc := 29) C (tgt := 46) dX3_waitAny_29 (by decide) (fun hc29 => ?_) (fun hc29 => ?_)
    · refine zz_iconst (pc := 46) C (v := 0) (by decide) dX3_waitAny_46 ?_
      exact zz_ireturn (pc := 47) C dX3_waitAny_47 (by first | rfl | decide) (Nat.le_refl _) (Nat.le_refl _) ⟨zvno hT hw9, zMod.no hT hw9 hR hag h23 hring⟩
    · exact (zw1 hc29 hw9).elim
  refine zz_aload_n (pc := 0) C dX3_waitAny_0 rfl ?_
  refine zz_aload_n (pc := 1) C dX3_waitAny_1 rfl ?_
  refine zz_iload_n (pc := 2) C dX3_waitAny_2 rfl ?_
  refine zz_callV (pc := 3) C (c_X3_is l D hR (x := x)) gX3_waitAny_X3_is rfl 1 (by decide +kernel) ⟨Nat.le_of_ble_eq_true rfl, Nat.le_of_ble_eq_true rfl⟩ hR.2.1 (ci := 3) rfl rfl rfl dX3_waitAny_3 rfl (Nat.le_of_ble_eq_true rfl) rfl ⟨Nat.le_of_ble_eq_true rfl, Nat.le_of_ble_eq_true rfl⟩ ?_
  rintro v G9 ⟨rfl, rfl⟩
  refine zz_if_ne (pc := 6) C (tgt := 13) dX3_waitAny_6 (by decide) (fun hc6 => ?_) (fun hc6 => ?_)
  · have hH : zHere σ x := zbp hc6
    have hx := hH.at
    refine zz_aload_n (pc := 13) C dX3_waitAny_13 rfl ?_
    refine zz_iload_n (pc := 14) C dX3_waitAny_14 rfl ?_
    refine zz_callV (pc := 15) C (c_xcannot l D hR hx) gX3_waitAny_X3_cannot rfl 1 (by decide +kernel) ⟨Nat.le_of_ble_eq_true rfl, Nat.le_of_ble_eq_true rfl⟩ hR.2.1 (ci := 3) rfl rfl rfl dX3_waitAny_15 rfl (Nat.le_of_ble_eq_true rfl) rfl ⟨Nat.le_of_ble_eq_true rfl, Nat.le_of_ble_eq_true rfl⟩ ?_
    rintro v G9 ⟨rfl, rfl⟩
    refine zz_if_eq (pc := 18) C (tgt := 25) dX3_waitAny_18 (by decide) (fun hc18 => ?_) (fun hc18 => ?_)
    · refine zz_iconst (pc := 25) C (v := 0) (by decide) dX3_waitAny_25 ?_
      first
        | exact k0 (zE2_0 (fun z => z hH) (zb_eq.mp hc18))
        | exact k1 2 (zE2_2 (fun z => z hH) (zbp hc18)) (by decide)
        | exact k1 1 (zE2_1 (zbn hc6)) (by decide)
    · refine zz_iconst (pc := 21) C (v := 2) (by decide) dX3_waitAny_21 ?_
      refine zz_goto (pc := 22) C (tgt := 26) dX3_waitAny_22 (by decide) ?_
      first
        | exact k0 (zE2_0 (fun z => z hH) (zb_eq.mp hc18))
        | exact k1 2 (zE2_2 (fun z => z hH) (zbp hc18)) (by decide)
        | exact k1 1 (zE2_1 (zbn hc6)) (by decide)
  · refine zz_iconst (pc := 9) C (v := 1) (by decide) dX3_waitAny_9 ?_
    refine zz_goto (pc := 10) C (tgt := 26) dX3_waitAny_10 (by decide) ?_
    first
      | exact k0 (zE2_0 (fun z => z hH) (zb_eq.mp hc18))
      | exact k1 2 (zE2_2 (fun z => z hH) (zbp hc18)) (by decide)
      | exact k1 1 (zE2_1 (zbn hc6)) (by decide)

set_option maxHeartbeats 4000000 in
set_option maxRecDepth 100000 in
theorem c_X3_waitFor (l : Launch) (D : va_G) {B G : zG} {y : Nat} {ma : Nat → Nat} {r : zS} {σ : zS} {x c9 f9 : Int32} (hR : zModR B y ma r G) (hag : zAg r σ) (hring : zRing r []) (h00 : σ 0 0 = 0) (hf : vp_nar .boolean f9 = f9) : zMet D l yX3_waitFor wsX3_waitFor ({ frames := 3, cells := 0, slots := 0, locals := 72 } : Room) [.ref y, .int x, .int c9, .int f9] G (fun v G9 => v = some (.int (if zE3 (¬ zHere σ x) (c9 < 1 ∨ (40 : Int32) < c9) (zNot σ (pn x)) = 0 then zb ((zCheck (zWset σ (pn x) c9 f9) (pn x)) 6 (pn x) = 0) else 0)) ∧ zMod B y ma (if zE3 (¬ zHere σ x) (c9 < 1 ∨ (40 : Int32) < c9) (zNot σ (pn x)) = 0 then zCheck (zWset σ (pn x) c9 f9) (pn x) else σ) [] (zE3 (¬ zHere σ x) (c9 < 1 ∨ (40 : Int32) < c9) (zNot σ (pn x))) G9) := by
  refine zMet_of (cc := cX3_waitFor) (maxL := 4) (ret := (some .boolean)) (by decide) rfl (Nat.le_of_ble_eq_true rfl) ?_
  intro p e s m args below meth c C hmn
  obtain ⟨t9, rfl⟩ : ∃ t9, r = zMix σ t9 := ⟨r, zMix_of hag⟩
  have k0 : zE3 (¬ zHere σ x) (c9 < 1 ∨ (40 : Int32) < c9) (zNot σ (pn x)) = 0 → zV p l e ({ frames := 3, cells := 0, slots := 0, locals := 72 } : Room) s m args below meth c D (zA G s.heap.size) 0 0 (zZ below D G (fun v G9 => v = some (.int (if zE3 (¬ zHere σ x) (c9 < 1 ∨ (40 : Int32) < c9) (zNot σ (pn x)) = 0 then zb ((zCheck (zWset σ (pn x) c9 f9) (pn x)) 6 (pn x) = 0) else 0)) ∧ zMod B y ma (if zE3 (¬ zHere σ x) (c9 < 1 ∨ (40 : Int32) < c9) (zNot σ (pn x)) = 0 then zCheck (zWset σ (pn x) c9 f9) (pn x) else σ) [] (zE3 (¬ zHere σ x) (c9 < 1 ∨ (40 : Int32) < c9) (zNot σ (pn x))) G9) args s ({ frames := 3, cells := 0, slots := 0, locals := 72 } : Room)) G 41 [some (.ref y), some (.int x), some (.int c9), some (.int f9)] [.int 0, .ref y] := by
    intro hT
    have hH : zHere σ x := Classical.not_not.mp (zE3_z hT).1
    have hx := hH.at
    have hnot : ¬ zNot σ (pn x) := (zE3_z hT).2.2
    refine zz_callV (pc := 41) C (c_X3_fails l D hR (w := 0)) gX3_waitFor_X3_fails rfl 1 (by decide +kernel) ⟨Nat.le_of_ble_eq_true rfl, Nat.le_of_ble_eq_true rfl⟩ hR.2.1 (ci := 3) rfl rfl rfl dX3_waitFor_41 rfl (Nat.le_of_ble_eq_true rfl) rfl ⟨Nat.le_of_ble_eq_true rfl, Nat.le_of_ble_eq_true rfl⟩ ?_
    rintro v G9 ⟨rfl, hR⟩
    have hag : zAg (zu (zMix σ t9) 23 0 0) σ := zAg_off hag (by decide)
    have hring : zRing (zu (zMix σ t9) 23 0 0) [] := hring.ag rfl rfl rfl
    have h23 : (zu (zMix σ t9) 23 0 0) 23 0 = 0 := zu_self
    refine zz_if_ne (pc := 44) C (tgt := 61) dX3_waitFor_44 (by decide) (fun hc44 => ?_) (fun hc44 => ?_)
    · exact (z02 hc44).elim
    · refine zz_aload_n (pc := 47) C dX3_waitFor_47 rfl ?_
      refine zz_iload_n (pc := 48) C dX3_waitFor_48 rfl ?_
      refine zz_iload_n (pc := 49) C dX3_waitFor_49 rfl ?_
      refine zz_iload_n (pc := 50) C dX3_waitFor_50 rfl ?_
      refine zz_callV (pc := 51) C (c_X3_waits l D hR (σ := σ) (x := x) (c9 := c9) (f9 := f9) hag hring hx h00 hf) gX3_waitFor_X3_waits rfl 3 (by decide +kernel) ⟨Nat.le_of_ble_eq_true rfl, Nat.le_of_ble_eq_true rfl⟩ hR.2.1 (ci := 3) rfl rfl rfl dX3_waitFor_51 rfl (Nat.le_of_ble_eq_true rfl) rfl ⟨Nat.le_of_ble_eq_true rfl, Nat.le_of_ble_eq_true rfl⟩ ?_
      rintro v G9 ⟨rfl, r2, hR, hag2, h232, hring2⟩
      refine zz_if_eq (pc := 54) C (tgt := 61) dX3_waitFor_54 (by decide) (fun hc54 => ?_) (fun hc54 => ?_)
      · refine zz_iconst (pc := 61) C (v := 0) (by decide) dX3_waitFor_61 ?_
        exact zz_ireturn (pc := 62) C dX3_waitFor_62 (by decide) (Nat.le_refl _) (Nat.le_refl _) ⟨zvok hT (by first | exact z1b (zbp hc54) | exact z0b (zb_eq.mp hc54)), zMod.ok hT hR hag2 ((congrFun h232 0).trans h23) hring2⟩
      · refine zz_iconst (pc := 57) C (v := 1) (by decide) dX3_waitFor_57 ?_
        refine zz_goto (pc := 58) C (tgt := 62) dX3_waitFor_58 (by decide) ?_
        exact zz_ireturn (pc := 62) C dX3_waitFor_62 (by decide) (Nat.le_refl _) (Nat.le_refl _) ⟨zvok hT (by first | exact z1b (zbp hc54) | exact z0b (zb_eq.mp hc54)), zMod.ok hT hR hag2 ((congrFun h232 0).trans h23) hring2⟩
  have k1 : ∀ w9 : Int32, zE3 (¬ zHere σ x) (c9 < 1 ∨ (40 : Int32) < c9) (zNot σ (pn x)) = w9 → 0 < w9 → zV p l e ({ frames := 3, cells := 0, slots := 0, locals := 72 } : Room) s m args below meth c D (zA G s.heap.size) 0 0 (zZ below D G (fun v G9 => v = some (.int (if zE3 (¬ zHere σ x) (c9 < 1 ∨ (40 : Int32) < c9) (zNot σ (pn x)) = 0 then zb ((zCheck (zWset σ (pn x) c9 f9) (pn x)) 6 (pn x) = 0) else 0)) ∧ zMod B y ma (if zE3 (¬ zHere σ x) (c9 < 1 ∨ (40 : Int32) < c9) (zNot σ (pn x)) = 0 then zCheck (zWset σ (pn x) c9 f9) (pn x) else σ) [] (zE3 (¬ zHere σ x) (c9 < 1 ∨ (40 : Int32) < c9) (zNot σ (pn x))) G9) args s ({ frames := 3, cells := 0, slots := 0, locals := 72 } : Room)) G 41 [some (.ref y), some (.int x), some (.int c9), some (.int f9)] [.int w9, .ref y] := by
    intro w9 hT hw9
    refine zz_callV (pc := 41) C (c_X3_fails l D hR (w := w9)) gX3_waitFor_X3_fails rfl 1 (by decide +kernel) ⟨Nat.le_of_ble_eq_true rfl, Nat.le_of_ble_eq_true rfl⟩ hR.2.1 (ci := 3) rfl rfl rfl dX3_waitFor_41 rfl (Nat.le_of_ble_eq_true rfl) rfl ⟨Nat.le_of_ble_eq_true rfl, Nat.le_of_ble_eq_true rfl⟩ ?_
    rintro v G9 ⟨rfl, hR⟩
    have hag : zAg (zu (zMix σ t9) 23 0 w9) σ := zAg_off hag (by decide)
    have hring : zRing (zu (zMix σ t9) 23 0 w9) [] := hring.ag rfl rfl rfl
    have h23 : (zu (zMix σ t9) 23 0 w9) 23 0 = w9 := zu_self
    refine zz_if_ne (pc := 44) C (tgt := 61) dX3_waitFor_44 (by decide) (fun hc44 => ?_) (fun hc44 => ?_)
    · refine zz_iconst (pc := 61) C (v := 0) (by decide) dX3_waitFor_61 ?_
      exact zz_ireturn (pc := 62) C dX3_waitFor_62 (by first | rfl | decide) (Nat.le_refl _) (Nat.le_refl _) ⟨zvno hT hw9, zMod.no hT hw9 hR hag h23 hring⟩
    · exact (zw1 hc44 hw9).elim
  refine zz_aload_n (pc := 0) C dX3_waitFor_0 rfl ?_
  refine zz_aload_n (pc := 1) C dX3_waitFor_1 rfl ?_
  refine zz_iload_n (pc := 2) C dX3_waitFor_2 rfl ?_
  refine zz_callV (pc := 3) C (c_X3_is l D hR (x := x)) gX3_waitFor_X3_is rfl 1 (by decide +kernel) ⟨Nat.le_of_ble_eq_true rfl, Nat.le_of_ble_eq_true rfl⟩ hR.2.1 (ci := 3) rfl rfl rfl dX3_waitFor_3 rfl (Nat.le_of_ble_eq_true rfl) rfl ⟨Nat.le_of_ble_eq_true rfl, Nat.le_of_ble_eq_true rfl⟩ ?_
  rintro v G9 ⟨rfl, rfl⟩
  refine zz_if_ne (pc := 6) C (tgt := 13) dX3_waitFor_6 (by decide) (fun hc6 => ?_) (fun hc6 => ?_)
  · have hH : zHere σ x := zbp hc6
    have hx := hH.at
    refine zz_iload_n (pc := 13) C dX3_waitFor_13 rfl ?_
    refine zz_iconst (pc := 14) C (v := 1) (by decide) dX3_waitFor_14 ?_
    refine zz_icmp_lt (pc := 15) C (tgt := 24) dX3_waitFor_15 (by decide) (fun hc15 => ?_) (fun hc15 => ?_)
    · refine zz_iconst (pc := 24) C (v := 2) (by decide) dX3_waitFor_24 ?_
      refine zz_goto (pc := 25) C (tgt := 41) dX3_waitFor_25 (by decide) ?_
      first
        | exact k0 (zE3_0 (fun z => z hH) (fun z => z.elim hc15 (fun u => absurd u (Int32.not_lt.mpr hc21))) (zb_eq.mp hc33))
        | exact k1 3 (zE3_3 (fun z => z hH) (fun z => z.elim hc15 (fun u => absurd u (Int32.not_lt.mpr hc21))) (zbp hc33)) (by decide)
        | exact k1 2 (zE3_2 (fun z => z hH) (Or.inl hc15)) (by decide)
        | exact k1 2 (zE3_2 (fun z => z hH) (Or.inr (Int32.not_le.mp hc21))) (by decide)
        | exact k1 1 (zE3_1 (zbn hc6)) (by decide)
    · refine zz_iload_n (pc := 18) C dX3_waitFor_18 rfl ?_
      refine zz_bipush (pc := 19) C (v := 40) (by decide) dX3_waitFor_19 ?_
      refine zz_icmp_le (pc := 21) C (tgt := 28) dX3_waitFor_21 (by decide) (fun hc21 => ?_) (fun hc21 => ?_)
      · refine zz_aload_n (pc := 28) C dX3_waitFor_28 rfl ?_
        refine zz_iload_n (pc := 29) C dX3_waitFor_29 rfl ?_
        refine zz_callV (pc := 30) C (c_xcannot l D hR hx) gX3_waitFor_X3_cannot rfl 1 (by decide +kernel) ⟨Nat.le_of_ble_eq_true rfl, Nat.le_of_ble_eq_true rfl⟩ hR.2.1 (ci := 3) rfl rfl rfl dX3_waitFor_30 rfl (Nat.le_of_ble_eq_true rfl) rfl ⟨Nat.le_of_ble_eq_true rfl, Nat.le_of_ble_eq_true rfl⟩ ?_
        rintro v G9 ⟨rfl, rfl⟩
        refine zz_if_eq (pc := 33) C (tgt := 40) dX3_waitFor_33 (by decide) (fun hc33 => ?_) (fun hc33 => ?_)
        · refine zz_iconst (pc := 40) C (v := 0) (by decide) dX3_waitFor_40 ?_
          first
            | exact k0 (zE3_0 (fun z => z hH) (fun z => z.elim hc15 (fun u => absurd u (Int32.not_lt.mpr hc21))) (zb_eq.mp hc33))
            | exact k1 3 (zE3_3 (fun z => z hH) (fun z => z.elim hc15 (fun u => absurd u (Int32.not_lt.mpr hc21))) (zbp hc33)) (by decide)
            | exact k1 2 (zE3_2 (fun z => z hH) (Or.inl hc15)) (by decide)
            | exact k1 2 (zE3_2 (fun z => z hH) (Or.inr (Int32.not_le.mp hc21))) (by decide)
            | exact k1 1 (zE3_1 (zbn hc6)) (by decide)
        · refine zz_iconst (pc := 36) C (v := 3) (by decide) dX3_waitFor_36 ?_
          refine zz_goto (pc := 37) C (tgt := 41) dX3_waitFor_37 (by decide) ?_
          first
            | exact k0 (zE3_0 (fun z => z hH) (fun z => z.elim hc15 (fun u => absurd u (Int32.not_lt.mpr hc21))) (zb_eq.mp hc33))
            | exact k1 3 (zE3_3 (fun z => z hH) (fun z => z.elim hc15 (fun u => absurd u (Int32.not_lt.mpr hc21))) (zbp hc33)) (by decide)
            | exact k1 2 (zE3_2 (fun z => z hH) (Or.inl hc15)) (by decide)
            | exact k1 2 (zE3_2 (fun z => z hH) (Or.inr (Int32.not_le.mp hc21))) (by decide)
            | exact k1 1 (zE3_1 (zbn hc6)) (by decide)
      · refine zz_iconst (pc := 24) C (v := 2) (by decide) dX3_waitFor_24 ?_
        refine zz_goto (pc := 25) C (tgt := 41) dX3_waitFor_25 (by decide) ?_
        first
          | exact k0 (zE3_0 (fun z => z hH) (fun z => z.elim hc15 (fun u => absurd u (Int32.not_lt.mpr hc21))) (zb_eq.mp hc33))
          | exact k1 3 (zE3_3 (fun z => z hH) (fun z => z.elim hc15 (fun u => absurd u (Int32.not_lt.mpr hc21))) (zbp hc33)) (by decide)
          | exact k1 2 (zE3_2 (fun z => z hH) (Or.inl hc15)) (by decide)
          | exact k1 2 (zE3_2 (fun z => z hH) (Or.inr (Int32.not_le.mp hc21))) (by decide)
          | exact k1 1 (zE3_1 (zbn hc6)) (by decide)
  · refine zz_iconst (pc := 9) C (v := 1) (by decide) dX3_waitFor_9 ?_
    refine zz_goto (pc := 10) C (tgt := 41) dX3_waitFor_10 (by decide) ?_
    first
      | exact k0 (zE3_0 (fun z => z hH) (fun z => z.elim hc15 (fun u => absurd u (Int32.not_lt.mpr hc21))) (zb_eq.mp hc33))
      | exact k1 3 (zE3_3 (fun z => z hH) (fun z => z.elim hc15 (fun u => absurd u (Int32.not_lt.mpr hc21))) (zbp hc33)) (by decide)
      | exact k1 2 (zE3_2 (fun z => z hH) (Or.inl hc15)) (by decide)
      | exact k1 2 (zE3_2 (fun z => z hH) (Or.inr (Int32.not_le.mp hc21))) (by decide)
      | exact k1 1 (zE3_1 (zbn hc6)) (by decide)
theorem fl_X3_setReaper_50 : Cond.fieldLink RX3 50 "SignalpostModel" "isReaper" "[Z" ∈ wsX3_setReaper := by decide +kernel
theorem in_X3_setReaper_X3 : ∀ w ∈ u_ws RX3 TX3 29, w ∈ wsX3_setReaper := by decide +kernel
set_option maxHeartbeats 4000000 in
set_option maxRecDepth 100000 in
theorem c_X3_setReaper (l : Launch) (D : va_G) {B G : zG} {y : Nat} {ma : Nat → Nat} {r : zS} {σ : zS} {x f9 : Int32} (hR : zModR B y ma r G) (hag : zAg r σ) (hring : zRing r []) (h13 : ∀ k, σ 13 k = 0 ∨ σ 13 k = 1) (hf : vp_nar .boolean f9 = f9) : zMet D l yX3_setReaper wsX3_setReaper ({ frames := 2, cells := 0, slots := 0, locals := 42 } : Room) [.ref y, .int x, .int f9] G (fun v G9 => v = some (.int (if zE2 (¬ zHere σ x) (zNot σ (pn x)) = 0 then σ 13 (pn x) else 0)) ∧ zMod B y ma (if zE2 (¬ zHere σ x) (zNot σ (pn x)) = 0 then zu σ 13 (pn x) f9 else σ) [] (zE2 (¬ zHere σ x) (zNot σ (pn x))) G9) := by
  refine zMet_of (cc := cX3_setReaper) (maxL := 4) (ret := (some .boolean)) (by decide) rfl (Nat.le_of_ble_eq_true rfl) ?_
  intro p e s m args below meth c C hmn
  obtain ⟨t9, rfl⟩ : ∃ t9, r = zMix σ t9 := ⟨r, zMix_of hag⟩
  have k0 : zE2 (¬ zHere σ x) (zNot σ (pn x)) = 0 → zV p l e ({ frames := 2, cells := 0, slots := 0, locals := 42 } : Room) s m args below meth c D (zA G s.heap.size) 0 0 (zZ below D G (fun v G9 => v = some (.int (if zE2 (¬ zHere σ x) (zNot σ (pn x)) = 0 then σ 13 (pn x) else 0)) ∧ zMod B y ma (if zE2 (¬ zHere σ x) (zNot σ (pn x)) = 0 then zu σ 13 (pn x) f9 else σ) [] (zE2 (¬ zHere σ x) (zNot σ (pn x))) G9) args s ({ frames := 2, cells := 0, slots := 0, locals := 42 } : Room)) G 26 [some (.ref y), some (.int x), some (.int f9), none] [.int 0, .ref y] := by
    intro hT
    have hH : zHere σ x := Classical.not_not.mp (zE2_z hT).1
    have hx := hH.at
    have hnot : ¬ zNot σ (pn x) := (zE2_z hT).2
    refine zz_callV (pc := 26) C (c_X3_fails l D hR (w := 0)) gX3_setReaper_X3_fails rfl 1 (by decide +kernel) ⟨Nat.le_of_ble_eq_true rfl, Nat.le_of_ble_eq_true rfl⟩ hR.2.1 (ci := 3) rfl rfl rfl dX3_setReaper_26 rfl (Nat.le_of_ble_eq_true rfl) rfl ⟨Nat.le_of_ble_eq_true rfl, Nat.le_of_ble_eq_true rfl⟩ ?_
    rintro v G9 ⟨rfl, hR⟩
    have hag : zAg (zu (zMix σ t9) 23 0 0) σ := zAg_off hag (by decide)
    have hring : zRing (zu (zMix σ t9) 23 0 0) [] := hring.ag rfl rfl rfl
    have h23 : (zu (zMix σ t9) 23 0 0) 23 0 = 0 := zu_self
    refine zz_if_eq (pc := 29) C (tgt := 34) dX3_setReaper_29 (by decide) (fun hc29 => ?_) (fun hc29 => ?_)
    · refine zz_aload_n (pc := 34) C dX3_setReaper_34 rfl ?_
      refine zz_get (pc := 35) C in_X3_setReaper_X3 (ci := 3) rfl 13 (by decide) (fl_X3_setReaper_50) rfl dX3_setReaper_35 hR.2.1 rfl ?_
      refine zz_iload_n (pc := 38) C dX3_setReaper_38 rfl ?_
      refine zz_mldz (pc := 39) C hR 13 (by decide) rfl dX3_setReaper_39 hx.1 (by show _ < 41; have := hx.2.2; omega) ?_
      refine zz_istore_n (pc := 40) C dX3_setReaper_40 (Nat.le_of_ble_eq_true rfl) ?_
      refine zz_aload_n (pc := 41) C dX3_setReaper_41 rfl ?_
      refine zz_get (pc := 42) C in_X3_setReaper_X3 (ci := 3) rfl 13 (by decide) (fl_X3_setReaper_50) rfl dX3_setReaper_42 hR.2.1 rfl ?_
      refine zz_iload_n (pc := 45) C dX3_setReaper_45 rfl ?_
      refine zz_iload_n (pc := 46) C dX3_setReaper_46 rfl ?_
      refine zz_mstz (pc := 47) C hR 13 (by decide) rfl dX3_setReaper_47 hx.1 (by show _ < 41; have := hx.2.2; omega) hf (fun G hR => ?_)
      refine zz_iload_n (pc := 48) C dX3_setReaper_48 rfl ?_
      exact zz_ireturn (pc := 49) C dX3_setReaper_49 (zb1 (h13 _)) (Nat.le_refl _) (Nat.le_refl _) ⟨zvok hT (rfl), zMod.ok hT hR (zAg_zu hag) h23 (hring.ag rfl rfl rfl)⟩
    · exact (z01 hc29).elim
  have k1 : ∀ w9 : Int32, zE2 (¬ zHere σ x) (zNot σ (pn x)) = w9 → 0 < w9 → zV p l e ({ frames := 2, cells := 0, slots := 0, locals := 42 } : Room) s m args below meth c D (zA G s.heap.size) 0 0 (zZ below D G (fun v G9 => v = some (.int (if zE2 (¬ zHere σ x) (zNot σ (pn x)) = 0 then σ 13 (pn x) else 0)) ∧ zMod B y ma (if zE2 (¬ zHere σ x) (zNot σ (pn x)) = 0 then zu σ 13 (pn x) f9 else σ) [] (zE2 (¬ zHere σ x) (zNot σ (pn x))) G9) args s ({ frames := 2, cells := 0, slots := 0, locals := 42 } : Room)) G 26 [some (.ref y), some (.int x), some (.int f9), none] [.int w9, .ref y] := by
    intro w9 hT hw9
    refine zz_callV (pc := 26) C (c_X3_fails l D hR (w := w9)) gX3_setReaper_X3_fails rfl 1 (by decide +kernel) ⟨Nat.le_of_ble_eq_true rfl, Nat.le_of_ble_eq_true rfl⟩ hR.2.1 (ci := 3) rfl rfl rfl dX3_setReaper_26 rfl (Nat.le_of_ble_eq_true rfl) rfl ⟨Nat.le_of_ble_eq_true rfl, Nat.le_of_ble_eq_true rfl⟩ ?_
    rintro v G9 ⟨rfl, hR⟩
    have hag : zAg (zu (zMix σ t9) 23 0 w9) σ := zAg_off hag (by decide)
    have hring : zRing (zu (zMix σ t9) 23 0 w9) [] := hring.ag rfl rfl rfl
    have h23 : (zu (zMix σ t9) 23 0 w9) 23 0 = w9 := zu_self
    refine zz_if_eq (pc := 29) C (tgt := 34) dX3_setReaper_29 (by decide) (fun hc29 => ?_) (fun hc29 => ?_)
    · exact (zw0 hc29 hw9).elim
    · refine zz_iconst (pc := 32) C (v := 0) (by decide) dX3_setReaper_32 ?_
      exact zz_ireturn (pc := 33) C dX3_setReaper_33 (by first | rfl | decide) (Nat.le_refl _) (Nat.le_refl _) ⟨zvno hT hw9, zMod.no hT hw9 hR hag h23 hring⟩
  refine zz_aload_n (pc := 0) C dX3_setReaper_0 rfl ?_
  refine zz_aload_n (pc := 1) C dX3_setReaper_1 rfl ?_
  refine zz_iload_n (pc := 2) C dX3_setReaper_2 rfl ?_
  refine zz_callV (pc := 3) C (c_X3_is l D hR (x := x)) gX3_setReaper_X3_is rfl 1 (by decide +kernel) ⟨Nat.le_of_ble_eq_true rfl, Nat.le_of_ble_eq_true rfl⟩ hR.2.1 (ci := 3) rfl rfl rfl dX3_setReaper_3 rfl (Nat.le_of_ble_eq_true rfl) rfl ⟨Nat.le_of_ble_eq_true rfl, Nat.le_of_ble_eq_true rfl⟩ ?_
  rintro v G9 ⟨rfl, rfl⟩
  refine zz_if_ne (pc := 6) C (tgt := 13) dX3_setReaper_6 (by decide) (fun hc6 => ?_) (fun hc6 => ?_)
  · have hH : zHere σ x := zbp hc6
    have hx := hH.at
    refine zz_aload_n (pc := 13) C dX3_setReaper_13 rfl ?_
    refine zz_iload_n (pc := 14) C dX3_setReaper_14 rfl ?_
    refine zz_callV (pc := 15) C (c_xcannot l D hR hx) gX3_setReaper_X3_cannot rfl 1 (by decide +kernel) ⟨Nat.le_of_ble_eq_true rfl, Nat.le_of_ble_eq_true rfl⟩ hR.2.1 (ci := 3) rfl rfl rfl dX3_setReaper_15 rfl (Nat.le_of_ble_eq_true rfl) rfl ⟨Nat.le_of_ble_eq_true rfl, Nat.le_of_ble_eq_true rfl⟩ ?_
    rintro v G9 ⟨rfl, rfl⟩
    refine zz_if_eq (pc := 18) C (tgt := 25) dX3_setReaper_18 (by decide) (fun hc18 => ?_) (fun hc18 => ?_)
    · refine zz_iconst (pc := 25) C (v := 0) (by decide) dX3_setReaper_25 ?_
      first
        | exact k0 (zE2_0 (fun z => z hH) (zb_eq.mp hc18))
        | exact k1 2 (zE2_2 (fun z => z hH) (zbp hc18)) (by decide)
        | exact k1 1 (zE2_1 (zbn hc6)) (by decide)
    · refine zz_iconst (pc := 21) C (v := 2) (by decide) dX3_setReaper_21 ?_
      refine zz_goto (pc := 22) C (tgt := 26) dX3_setReaper_22 (by decide) ?_
      first
        | exact k0 (zE2_0 (fun z => z hH) (zb_eq.mp hc18))
        | exact k1 2 (zE2_2 (fun z => z hH) (zbp hc18)) (by decide)
        | exact k1 1 (zE2_1 (zbn hc6)) (by decide)
  · refine zz_iconst (pc := 9) C (v := 1) (by decide) dX3_setReaper_9 ?_
    refine zz_goto (pc := 10) C (tgt := 26) dX3_setReaper_10 (by decide) ?_
    first
      | exact k0 (zE2_0 (fun z => z hH) (zb_eq.mp hc18))
      | exact k1 2 (zE2_2 (fun z => z hH) (zbp hc18)) (by decide)
      | exact k1 1 (zE2_1 (zbn hc6)) (by decide)
theorem fl_X3_openTerminal_20 : Cond.fieldLink RX3 20 "SignalpostModel" "session" "[I" ∈ wsX3_openTerminal := by decide +kernel
theorem fl_X3_openTerminal_74 : Cond.fieldLink RX3 74 "SignalpostModel" "terminal" "I" ∈ wsX3_openTerminal := by decide +kernel
theorem fl_X3_openTerminal_17 : Cond.fieldLink RX3 17 "SignalpostModel" "group" "[I" ∈ wsX3_openTerminal := by decide +kernel
theorem fl_X3_openTerminal_78 : Cond.fieldLink RX3 78 "SignalpostModel" "foreground" "I" ∈ wsX3_openTerminal := by decide +kernel
theorem in_X3_openTerminal_X3 : ∀ w ∈ u_ws RX3 TX3 29, w ∈ wsX3_openTerminal := by decide +kernel
set_option maxHeartbeats 4000000 in
set_option maxRecDepth 100000 in
theorem c_X3_openTerminal (l : Launch) (D : va_G) {B G : zG} {y : Nat} {ma : Nat → Nat} {r : zS} {σ : zS} {x : Int32} (hR : zModR B y ma r G) (hag : zAg r σ) (hring : zRing r []) : zMet D l yX3_openTerminal wsX3_openTerminal ({ frames := 2, cells := 0, slots := 0, locals := 42 } : Room) [.ref y, .int x] G (fun v G9 => v = none ∧ zMod B y ma (if zE2 (¬ zHere σ x) (zNot σ (pn x) ∨ σ 3 (pn x) ≠ x ∨ σ 21 0 ≠ -1) = 0 then zu (zu σ 21 0 x) 22 0 (σ 2 (pn x)) else σ) [] (zE2 (¬ zHere σ x) (zNot σ (pn x) ∨ σ 3 (pn x) ≠ x ∨ σ 21 0 ≠ -1)) G9) := by
  refine zMet_of (cc := cX3_openTerminal) (maxL := 2) (ret := none) (by decide) rfl (Nat.le_of_ble_eq_true rfl) ?_
  intro p e s m args below meth c C hmn
  obtain ⟨t9, rfl⟩ : ∃ t9, r = zMix σ t9 := ⟨r, zMix_of hag⟩
  have k0 : zE2 (¬ zHere σ x) (zNot σ (pn x) ∨ σ 3 (pn x) ≠ x ∨ σ 21 0 ≠ -1) = 0 → zV p l e ({ frames := 2, cells := 0, slots := 0, locals := 42 } : Room) s m args below meth c D (zA G s.heap.size) 0 0 (zZ below D G (fun v G9 => v = none ∧ zMod B y ma (if zE2 (¬ zHere σ x) (zNot σ (pn x) ∨ σ 3 (pn x) ≠ x ∨ σ 21 0 ≠ -1) = 0 then zu (zu σ 21 0 x) 22 0 (σ 2 (pn x)) else σ) [] (zE2 (¬ zHere σ x) (zNot σ (pn x) ∨ σ 3 (pn x) ≠ x ∨ σ 21 0 ≠ -1)) G9) args s ({ frames := 2, cells := 0, slots := 0, locals := 42 } : Room)) G 44 [some (.ref y), some (.int x)] [.int 0, .ref y] := by
    intro hT
    have hH : zHere σ x := Classical.not_not.mp (zE2_z hT).1
    have hx := hH.at
    have hnot : ¬ zNot σ (pn x) := (fun z => (zE2_z hT).2 (Or.inl z))
    refine zz_callV (pc := 44) C (c_X3_fails l D hR (w := 0)) gX3_openTerminal_X3_fails rfl 1 (by decide +kernel) ⟨Nat.le_of_ble_eq_true rfl, Nat.le_of_ble_eq_true rfl⟩ hR.2.1 (ci := 3) rfl rfl rfl dX3_openTerminal_44 rfl (Nat.le_of_ble_eq_true rfl) rfl ⟨Nat.le_of_ble_eq_true rfl, Nat.le_of_ble_eq_true rfl⟩ ?_
    rintro v G9 ⟨rfl, hR⟩
    have hag : zAg (zu (zMix σ t9) 23 0 0) σ := zAg_off hag (by decide)
    have hring : zRing (zu (zMix σ t9) 23 0 0) [] := hring.ag rfl rfl rfl
    have h23 : (zu (zMix σ t9) 23 0 0) 23 0 = 0 := zu_self
    refine zz_if_eq (pc := 47) C (tgt := 51) dX3_openTerminal_47 (by decide) (fun hc47 => ?_) (fun hc47 => ?_)
    · refine zz_aload_n (pc := 51) C dX3_openTerminal_51 rfl ?_
      refine zz_iload_n (pc := 52) C dX3_openTerminal_52 rfl ?_
      refine zz_mput (pc := 53) C in_X3_openTerminal_X3 hR 21 (by decide) fl_X3_openTerminal_74 dX3_openTerminal_53 (fun G hR => ?_)
      refine zz_aload_n (pc := 56) C dX3_openTerminal_56 rfl ?_
      refine zz_aload_n (pc := 57) C dX3_openTerminal_57 rfl ?_
      refine zz_get (pc := 58) C in_X3_openTerminal_X3 (ci := 3) rfl 2 (by decide) (fl_X3_openTerminal_17) rfl dX3_openTerminal_58 hR.2.1 rfl ?_
      refine zz_iload_n (pc := 61) C dX3_openTerminal_61 rfl ?_
      refine zz_mld (pc := 62) C hR 2 (by decide) rfl dX3_openTerminal_62 hx.1 (by show _ < 41; have := hx.2.2; omega) ?_
      refine zz_mput (pc := 63) C in_X3_openTerminal_X3 hR 22 (by decide) fl_X3_openTerminal_78 dX3_openTerminal_63 (fun G hR => ?_)
      exact zz_return (pc := 66) C dX3_openTerminal_66 (Nat.le_refl _) (Nat.le_refl _) ⟨rfl, zMod.ok hT hR (zAg_zu (zAg_zu hag)) h23 (hring.ag rfl rfl rfl)⟩
    · exact (z01 hc47).elim
  have k1 : ∀ w9 : Int32, zE2 (¬ zHere σ x) (zNot σ (pn x) ∨ σ 3 (pn x) ≠ x ∨ σ 21 0 ≠ -1) = w9 → 0 < w9 → zV p l e ({ frames := 2, cells := 0, slots := 0, locals := 42 } : Room) s m args below meth c D (zA G s.heap.size) 0 0 (zZ below D G (fun v G9 => v = none ∧ zMod B y ma (if zE2 (¬ zHere σ x) (zNot σ (pn x) ∨ σ 3 (pn x) ≠ x ∨ σ 21 0 ≠ -1) = 0 then zu (zu σ 21 0 x) 22 0 (σ 2 (pn x)) else σ) [] (zE2 (¬ zHere σ x) (zNot σ (pn x) ∨ σ 3 (pn x) ≠ x ∨ σ 21 0 ≠ -1)) G9) args s ({ frames := 2, cells := 0, slots := 0, locals := 42 } : Room)) G 44 [some (.ref y), some (.int x)] [.int w9, .ref y] := by
    intro w9 hT hw9
    refine zz_callV (pc := 44) C (c_X3_fails l D hR (w := w9)) gX3_openTerminal_X3_fails rfl 1 (by decide +kernel) ⟨Nat.le_of_ble_eq_true rfl, Nat.le_of_ble_eq_true rfl⟩ hR.2.1 (ci := 3) rfl rfl rfl dX3_openTerminal_44 rfl (Nat.le_of_ble_eq_true rfl) rfl ⟨Nat.le_of_ble_eq_true rfl, Nat.le_of_ble_eq_true rfl⟩ ?_
    rintro v G9 ⟨rfl, hR⟩
    have hag : zAg (zu (zMix σ t9) 23 0 w9) σ := zAg_off hag (by decide)
    have hring : zRing (zu (zMix σ t9) 23 0 w9) [] := hring.ag rfl rfl rfl
    have h23 : (zu (zMix σ t9) 23 0 w9) 23 0 = w9 := zu_self
    refine zz_if_eq (pc := 47) C (tgt := 51) dX3_openTerminal_47 (by decide) (fun hc47 => ?_) (fun hc47 => ?_)
    · exact (zw0 hc47 hw9).elim
    · exact zz_return (pc := 50) C dX3_openTerminal_50 (Nat.le_refl _) (Nat.le_refl _) ⟨rfl, zMod.no hT hw9 hR hag h23 hring⟩
  refine zz_aload_n (pc := 0) C dX3_openTerminal_0 rfl ?_
  refine zz_aload_n (pc := 1) C dX3_openTerminal_1 rfl ?_
  refine zz_iload_n (pc := 2) C dX3_openTerminal_2 rfl ?_
  refine zz_callV (pc := 3) C (c_X3_is l D hR (x := x)) gX3_openTerminal_X3_is rfl 1 (by decide +kernel) ⟨Nat.le_of_ble_eq_true rfl, Nat.le_of_ble_eq_true rfl⟩ hR.2.1 (ci := 3) rfl rfl rfl dX3_openTerminal_3 rfl (Nat.le_of_ble_eq_true rfl) rfl ⟨Nat.le_of_ble_eq_true rfl, Nat.le_of_ble_eq_true rfl⟩ ?_
  rintro v G9 ⟨rfl, rfl⟩
  refine zz_if_ne (pc := 6) C (tgt := 13) dX3_openTerminal_6 (by decide) (fun hc6 => ?_) (fun hc6 => ?_)
  · have hH : zHere σ x := zbp hc6
    have hx := hH.at
    refine zz_aload_n (pc := 13) C dX3_openTerminal_13 rfl ?_
    refine zz_iload_n (pc := 14) C dX3_openTerminal_14 rfl ?_
    refine zz_callV (pc := 15) C (c_xcannot l D hR hx) gX3_openTerminal_X3_cannot rfl 1 (by decide +kernel) ⟨Nat.le_of_ble_eq_true rfl, Nat.le_of_ble_eq_true rfl⟩ hR.2.1 (ci := 3) rfl rfl rfl dX3_openTerminal_15 rfl (Nat.le_of_ble_eq_true rfl) rfl ⟨Nat.le_of_ble_eq_true rfl, Nat.le_of_ble_eq_true rfl⟩ ?_
    rintro v G9 ⟨rfl, rfl⟩
    refine zz_if_ne (pc := 18) C (tgt := 39) dX3_openTerminal_18 (by decide) (fun hc18 => ?_) (fun hc18 => ?_)
    · refine zz_iconst (pc := 39) C (v := 2) (by decide) dX3_openTerminal_39 ?_
      refine zz_goto (pc := 40) C (tgt := 44) dX3_openTerminal_40 (by decide) ?_
      first
        | exact k0 (zE2_0 (fun z => z hH) (fun z => z.elim (zbn hc18) (fun u => u.elim hc28 (fun t => t hc36))))
        | exact k1 2 (zE2_2 (fun z => z hH) (Or.inl (zb_ne.mp hc18))) (by decide)
        | exact k1 2 (zE2_2 (fun z => z hH) (Or.inr (Or.inl hc28))) (by decide)
        | exact k1 2 (zE2_2 (fun z => z hH) (Or.inr (Or.inr hc36))) (by decide)
        | exact k1 1 (zE2_1 (zbn hc6)) (by decide)
    · refine zz_aload_n (pc := 21) C dX3_openTerminal_21 rfl ?_
      refine zz_get (pc := 22) C in_X3_openTerminal_X3 (ci := 3) rfl 3 (by decide) (fl_X3_openTerminal_20) rfl dX3_openTerminal_22 hR.2.1 rfl ?_
      refine zz_iload_n (pc := 25) C dX3_openTerminal_25 rfl ?_
      refine zz_mld (pc := 26) C hR 3 (by decide) rfl dX3_openTerminal_26 hx.1 (by show _ < 41; have := hx.2.2; omega) ?_
      refine zz_iload_n (pc := 27) C dX3_openTerminal_27 rfl ?_
      refine zz_icmp_ne (pc := 28) C (tgt := 39) dX3_openTerminal_28 (by decide) (fun hc28 => ?_) (fun hc28 => ?_)
      · refine zz_iconst (pc := 39) C (v := 2) (by decide) dX3_openTerminal_39 ?_
        refine zz_goto (pc := 40) C (tgt := 44) dX3_openTerminal_40 (by decide) ?_
        first
          | exact k0 (zE2_0 (fun z => z hH) (fun z => z.elim (zbn hc18) (fun u => u.elim hc28 (fun t => t hc36))))
          | exact k1 2 (zE2_2 (fun z => z hH) (Or.inl (zb_ne.mp hc18))) (by decide)
          | exact k1 2 (zE2_2 (fun z => z hH) (Or.inr (Or.inl hc28))) (by decide)
          | exact k1 2 (zE2_2 (fun z => z hH) (Or.inr (Or.inr hc36))) (by decide)
          | exact k1 1 (zE2_1 (zbn hc6)) (by decide)
      · refine zz_aload_n (pc := 31) C dX3_openTerminal_31 rfl ?_
        refine zz_get (pc := 32) C in_X3_openTerminal_X3 (ci := 3) rfl 21 (by decide) (fl_X3_openTerminal_74) rfl dX3_openTerminal_32 hR.2.1 rfl ?_
        refine zz_iconst (pc := 35) C (v := -1) (by decide) dX3_openTerminal_35 ?_
        refine zz_icmp_eq (pc := 36) C (tgt := 43) dX3_openTerminal_36 (by decide) (fun hc36 => ?_) (fun hc36 => ?_)
        · refine zz_iconst (pc := 43) C (v := 0) (by decide) dX3_openTerminal_43 ?_
          first
            | exact k0 (zE2_0 (fun z => z hH) (fun z => z.elim (zbn hc18) (fun u => u.elim hc28 (fun t => t hc36))))
            | exact k1 2 (zE2_2 (fun z => z hH) (Or.inl (zb_ne.mp hc18))) (by decide)
            | exact k1 2 (zE2_2 (fun z => z hH) (Or.inr (Or.inl hc28))) (by decide)
            | exact k1 2 (zE2_2 (fun z => z hH) (Or.inr (Or.inr hc36))) (by decide)
            | exact k1 1 (zE2_1 (zbn hc6)) (by decide)
        · refine zz_iconst (pc := 39) C (v := 2) (by decide) dX3_openTerminal_39 ?_
          refine zz_goto (pc := 40) C (tgt := 44) dX3_openTerminal_40 (by decide) ?_
          first
            | exact k0 (zE2_0 (fun z => z hH) (fun z => z.elim (zbn hc18) (fun u => u.elim hc28 (fun t => t hc36))))
            | exact k1 2 (zE2_2 (fun z => z hH) (Or.inl (zb_ne.mp hc18))) (by decide)
            | exact k1 2 (zE2_2 (fun z => z hH) (Or.inr (Or.inl hc28))) (by decide)
            | exact k1 2 (zE2_2 (fun z => z hH) (Or.inr (Or.inr hc36))) (by decide)
            | exact k1 1 (zE2_1 (zbn hc6)) (by decide)
  · refine zz_iconst (pc := 9) C (v := 1) (by decide) dX3_openTerminal_9 ?_
    refine zz_goto (pc := 10) C (tgt := 44) dX3_openTerminal_10 (by decide) ?_
    first
      | exact k0 (zE2_0 (fun z => z hH) (fun z => z.elim (zbn hc18) (fun u => u.elim hc28 (fun t => t hc36))))
      | exact k1 2 (zE2_2 (fun z => z hH) (Or.inl (zb_ne.mp hc18))) (by decide)
      | exact k1 2 (zE2_2 (fun z => z hH) (Or.inr (Or.inl hc28))) (by decide)
      | exact k1 2 (zE2_2 (fun z => z hH) (Or.inr (Or.inr hc36))) (by decide)
      | exact k1 1 (zE2_1 (zbn hc6)) (by decide)
theorem fl_X3_beginSession_7 : Cond.fieldLink RX3 7 "SignalpostModel" "isThere" "[Z" ∈ wsX3_beginSession := by decide +kernel
theorem fl_X3_beginSession_17 : Cond.fieldLink RX3 17 "SignalpostModel" "group" "[I" ∈ wsX3_beginSession := by decide +kernel
theorem fl_X3_beginSession_20 : Cond.fieldLink RX3 20 "SignalpostModel" "session" "[I" ∈ wsX3_beginSession := by decide +kernel
theorem in_X3_beginSession_X3 : ∀ w ∈ u_ws RX3 TX3 29, w ∈ wsX3_beginSession := by decide +kernel
set_option maxHeartbeats 4000000 in
set_option maxRecDepth 100000 in
theorem c_X3_beginSession (l : Launch) (D : va_G) {B G : zG} {y : Nat} {ma : Nat → Nat} {r : zS} {σ : zS} {x : Int32} (hR : zModR B y ma r G) (hag : zAg r σ) (hring : zRing r []) (h00 : σ 0 0 = 0) : zMet D l yX3_beginSession wsX3_beginSession ({ frames := 2, cells := 0, slots := 0, locals := 42 } : Room) [.ref y, .int x] G (fun v G9 => v = none ∧ zMod B y ma (if zE2 (¬ zHere σ x) (zNot σ (pn x) ∨ zIsGrp σ x 41) = 0 then zu (zu σ 3 (pn x) x) 2 (pn x) x else σ) [] (zE2 (¬ zHere σ x) (zNot σ (pn x) ∨ zIsGrp σ x 41)) G9) := by
  refine zMet_of (cc := cX3_beginSession) (maxL := 4) (ret := none) (by decide) rfl (Nat.le_of_ble_eq_true rfl) ?_
  intro p e s m args below meth c C hmn
  obtain ⟨t9, rfl⟩ : ∃ t9, r = zMix σ t9 := ⟨r, zMix_of hag⟩
  have k0 : zE2 (¬ zHere σ x) (zNot σ (pn x) ∨ zIsGrp σ x 41) = 0 → zV p l e ({ frames := 2, cells := 0, slots := 0, locals := 42 } : Room) s m args below meth c D (zA G s.heap.size) 0 0 (zZ below D G (fun v G9 => v = none ∧ zMod B y ma (if zE2 (¬ zHere σ x) (zNot σ (pn x) ∨ zIsGrp σ x 41) = 0 then zu (zu σ 3 (pn x) x) 2 (pn x) x else σ) [] (zE2 (¬ zHere σ x) (zNot σ (pn x) ∨ zIsGrp σ x 41)) G9) args s ({ frames := 2, cells := 0, slots := 0, locals := 42 } : Room)) G 75 [some (.ref y), some (.int x), none, none] [.int 0, .ref y] := by
    intro hT
    have hH : zHere σ x := Classical.not_not.mp (zE2_z hT).1
    have hx := hH.at
    have hnot : ¬ zNot σ (pn x) := (fun z => (zE2_z hT).2 (Or.inl z))
    refine zz_callV (pc := 75) C (c_X3_fails l D hR (w := 0)) gX3_beginSession_X3_fails rfl 1 (by decide +kernel) ⟨Nat.le_of_ble_eq_true rfl, Nat.le_of_ble_eq_true rfl⟩ hR.2.1 (ci := 3) rfl rfl rfl dX3_beginSession_75 rfl (Nat.le_of_ble_eq_true rfl) rfl ⟨Nat.le_of_ble_eq_true rfl, Nat.le_of_ble_eq_true rfl⟩ ?_
    rintro v G9 ⟨rfl, hR⟩
    have hag : zAg (zu (zMix σ t9) 23 0 0) σ := zAg_off hag (by decide)
    have hring : zRing (zu (zMix σ t9) 23 0 0) [] := hring.ag rfl rfl rfl
    have h23 : (zu (zMix σ t9) 23 0 0) 23 0 = 0 := zu_self
    refine zz_if_eq (pc := 78) C (tgt := 82) dX3_beginSession_78 (by decide) (fun hc78 => ?_) (fun hc78 => ?_)
    · refine zz_aload_n (pc := 82) C dX3_beginSession_82 rfl ?_
      refine zz_get (pc := 83) C in_X3_beginSession_X3 (ci := 3) rfl 3 (by decide) (fl_X3_beginSession_20) rfl dX3_beginSession_83 hR.2.1 rfl ?_
      refine zz_iload_n (pc := 86) C dX3_beginSession_86 rfl ?_
      refine zz_iload_n (pc := 87) C dX3_beginSession_87 rfl ?_
      refine zz_mst (pc := 88) C hR 3 (by decide) rfl dX3_beginSession_88 hx.1 (by show _ < 41; have := hx.2.2; omega) (fun G hR => ?_)
      refine zz_aload_n (pc := 89) C dX3_beginSession_89 rfl ?_
      refine zz_get (pc := 90) C in_X3_beginSession_X3 (ci := 3) rfl 2 (by decide) (fl_X3_beginSession_17) rfl dX3_beginSession_90 hR.2.1 rfl ?_
      refine zz_iload_n (pc := 93) C dX3_beginSession_93 rfl ?_
      refine zz_iload_n (pc := 94) C dX3_beginSession_94 rfl ?_
      refine zz_mst (pc := 95) C hR 2 (by decide) rfl dX3_beginSession_95 hx.1 (by show _ < 41; have := hx.2.2; omega) (fun G hR => ?_)
      exact zz_return (pc := 96) C dX3_beginSession_96 (Nat.le_refl _) (Nat.le_refl _) ⟨rfl, zMod.ok hT hR (zAg_zu (zAg_zu hag)) h23 (hring.ag rfl rfl rfl)⟩
    · exact (z01 hc78).elim
  have k1 : ∀ w9 : Int32, zE2 (¬ zHere σ x) (zNot σ (pn x) ∨ zIsGrp σ x 41) = w9 → 0 < w9 → zV p l e ({ frames := 2, cells := 0, slots := 0, locals := 42 } : Room) s m args below meth c D (zA G s.heap.size) 0 0 (zZ below D G (fun v G9 => v = none ∧ zMod B y ma (if zE2 (¬ zHere σ x) (zNot σ (pn x) ∨ zIsGrp σ x 41) = 0 then zu (zu σ 3 (pn x) x) 2 (pn x) x else σ) [] (zE2 (¬ zHere σ x) (zNot σ (pn x) ∨ zIsGrp σ x 41)) G9) args s ({ frames := 2, cells := 0, slots := 0, locals := 42 } : Room)) G 75 [some (.ref y), some (.int x), none, none] [.int w9, .ref y] := by
    intro w9 hT hw9
    refine zz_callV (pc := 75) C (c_X3_fails l D hR (w := w9)) gX3_beginSession_X3_fails rfl 1 (by decide +kernel) ⟨Nat.le_of_ble_eq_true rfl, Nat.le_of_ble_eq_true rfl⟩ hR.2.1 (ci := 3) rfl rfl rfl dX3_beginSession_75 rfl (Nat.le_of_ble_eq_true rfl) rfl ⟨Nat.le_of_ble_eq_true rfl, Nat.le_of_ble_eq_true rfl⟩ ?_
    rintro v G9 ⟨rfl, hR⟩
    have hag : zAg (zu (zMix σ t9) 23 0 w9) σ := zAg_off hag (by decide)
    have hring : zRing (zu (zMix σ t9) 23 0 w9) [] := hring.ag rfl rfl rfl
    have h23 : (zu (zMix σ t9) 23 0 w9) 23 0 = w9 := zu_self
    refine zz_if_eq (pc := 78) C (tgt := 82) dX3_beginSession_78 (by decide) (fun hc78 => ?_) (fun hc78 => ?_)
    · exact (zw0 hc78 hw9).elim
    · exact zz_return (pc := 81) C dX3_beginSession_81 (Nat.le_refl _) (Nat.le_refl _) ⟨rfl, zMod.no hT hw9 hR hag h23 hring⟩
  have loop : ∀ (n i : Nat), i + n = 41 → 1 ≤ i → zV p l e ({ frames := 2, cells := 0, slots := 0, locals := 42 } : Room) s m args below meth c D (zA G s.heap.size) 0 0 (zZ below D G (fun v G9 => v = none ∧ zMod B y ma (if zE2 (¬ zHere σ x) (zNot σ (pn x) ∨ zIsGrp σ x 41) = 0 then zu (zu σ 3 (pn x) x) 2 (pn x) x else σ) [] (zE2 (¬ zHere σ x) (zNot σ (pn x) ∨ zIsGrp σ x 41)) G9) args s ({ frames := 2, cells := 0, slots := 0, locals := 42 } : Room)) G 4 [some (.ref y), some (.int x), some (.int (zb (zIsGrp σ x i))), some (.int (nI (i)))] [] := by
    intro n
    induction n with
    | zero =>
      intro i hi h1
      have hi41 : i = 41 := by omega
      subst hi41
      refine zz_iload_n (pc := 4) C dX3_beginSession_4 rfl ?_
      refine zz_bipush (pc := 5) C (v := 40) (by decide) dX3_beginSession_5 ?_
      refine zz_icmp_gt (pc := 7) C (tgt := 45) dX3_beginSession_7 (by decide) (fun hc7 => ?_) (fun hc7 => ?_)
      · refine zz_aload_n (pc := 45) C dX3_beginSession_45 rfl ?_
        refine zz_aload_n (pc := 46) C dX3_beginSession_46 rfl ?_
        refine zz_iload_n (pc := 47) C dX3_beginSession_47 rfl ?_
        refine zz_callV (pc := 48) C (c_X3_is l D hR (x := x)) gX3_beginSession_X3_is rfl 1 (by decide +kernel) ⟨Nat.le_of_ble_eq_true rfl, Nat.le_of_ble_eq_true rfl⟩ hR.2.1 (ci := 3) rfl rfl rfl dX3_beginSession_48 rfl (Nat.le_of_ble_eq_true rfl) rfl ⟨Nat.le_of_ble_eq_true rfl, Nat.le_of_ble_eq_true rfl⟩ ?_
        rintro v G9 ⟨rfl, rfl⟩
        refine zz_if_ne (pc := 51) C (tgt := 58) dX3_beginSession_51 (by decide) (fun hc51 => ?_) (fun hc51 => ?_)
        · have hH : zHere σ x := zbp hc51
          have hx := hH.at
          refine zz_aload_n (pc := 58) C dX3_beginSession_58 rfl ?_
          refine zz_iload_n (pc := 59) C dX3_beginSession_59 rfl ?_
          refine zz_callV (pc := 60) C (c_xcannot l D hR hx) gX3_beginSession_X3_cannot rfl 1 (by decide +kernel) ⟨Nat.le_of_ble_eq_true rfl, Nat.le_of_ble_eq_true rfl⟩ hR.2.1 (ci := 3) rfl rfl rfl dX3_beginSession_60 rfl (Nat.le_of_ble_eq_true rfl) rfl ⟨Nat.le_of_ble_eq_true rfl, Nat.le_of_ble_eq_true rfl⟩ ?_
          rintro v G9 ⟨rfl, rfl⟩
          refine zz_if_ne (pc := 63) C (tgt := 70) dX3_beginSession_63 (by decide) (fun hc63 => ?_) (fun hc63 => ?_)
          · refine zz_iconst (pc := 70) C (v := 2) (by decide) dX3_beginSession_70 ?_
            refine zz_goto (pc := 71) C (tgt := 75) dX3_beginSession_71 (by decide) ?_
            first
              | exact zV.less (L' := [some (.ref y), some (.int x), none, none]) ⟨rfl, rfl, trivial⟩ (k0 (zE2_0 (fun z => z hH) (fun z => z.elim (zbn hc63) (zb_eq.mp hc67))))
              | exact zV.less (L' := [some (.ref y), some (.int x), none, none]) ⟨rfl, rfl, trivial⟩ (k1 2 (zE2_2 (fun z => z hH) (Or.inl (zb_ne.mp hc63))) (by decide))
              | exact zV.less (L' := [some (.ref y), some (.int x), none, none]) ⟨rfl, rfl, trivial⟩ (k1 2 (zE2_2 (fun z => z hH) (Or.inr (zbp hc67))) (by decide))
              | exact zV.less (L' := [some (.ref y), some (.int x), none, none]) ⟨rfl, rfl, trivial⟩ (k1 1 (zE2_1 (zbn hc51)) (by decide))
          · refine zz_iload_n (pc := 66) C dX3_beginSession_66 rfl ?_
            refine zz_if_eq (pc := 67) C (tgt := 74) dX3_beginSession_67 (by decide) (fun hc67 => ?_) (fun hc67 => ?_)
            · refine zz_iconst (pc := 74) C (v := 0) (by decide) dX3_beginSession_74 ?_
              first
                | exact zV.less (L' := [some (.ref y), some (.int x), none, none]) ⟨rfl, rfl, trivial⟩ (k0 (zE2_0 (fun z => z hH) (fun z => z.elim (zbn hc63) (zb_eq.mp hc67))))
                | exact zV.less (L' := [some (.ref y), some (.int x), none, none]) ⟨rfl, rfl, trivial⟩ (k1 2 (zE2_2 (fun z => z hH) (Or.inl (zb_ne.mp hc63))) (by decide))
                | exact zV.less (L' := [some (.ref y), some (.int x), none, none]) ⟨rfl, rfl, trivial⟩ (k1 2 (zE2_2 (fun z => z hH) (Or.inr (zbp hc67))) (by decide))
                | exact zV.less (L' := [some (.ref y), some (.int x), none, none]) ⟨rfl, rfl, trivial⟩ (k1 1 (zE2_1 (zbn hc51)) (by decide))
            · refine zz_iconst (pc := 70) C (v := 2) (by decide) dX3_beginSession_70 ?_
              refine zz_goto (pc := 71) C (tgt := 75) dX3_beginSession_71 (by decide) ?_
              first
                | exact zV.less (L' := [some (.ref y), some (.int x), none, none]) ⟨rfl, rfl, trivial⟩ (k0 (zE2_0 (fun z => z hH) (fun z => z.elim (zbn hc63) (zb_eq.mp hc67))))
                | exact zV.less (L' := [some (.ref y), some (.int x), none, none]) ⟨rfl, rfl, trivial⟩ (k1 2 (zE2_2 (fun z => z hH) (Or.inl (zb_ne.mp hc63))) (by decide))
                | exact zV.less (L' := [some (.ref y), some (.int x), none, none]) ⟨rfl, rfl, trivial⟩ (k1 2 (zE2_2 (fun z => z hH) (Or.inr (zbp hc67))) (by decide))
                | exact zV.less (L' := [some (.ref y), some (.int x), none, none]) ⟨rfl, rfl, trivial⟩ (k1 1 (zE2_1 (zbn hc51)) (by decide))
        · refine zz_iconst (pc := 54) C (v := 1) (by decide) dX3_beginSession_54 ?_
          refine zz_goto (pc := 55) C (tgt := 75) dX3_beginSession_55 (by decide) ?_
          first
            | exact zV.less (L' := [some (.ref y), some (.int x), none, none]) ⟨rfl, rfl, trivial⟩ (k0 (zE2_0 (fun z => z hH) (fun z => z.elim (zbn hc63) (zb_eq.mp hc67))))
            | exact zV.less (L' := [some (.ref y), some (.int x), none, none]) ⟨rfl, rfl, trivial⟩ (k1 2 (zE2_2 (fun z => z hH) (Or.inl (zb_ne.mp hc63))) (by decide))
            | exact zV.less (L' := [some (.ref y), some (.int x), none, none]) ⟨rfl, rfl, trivial⟩ (k1 2 (zE2_2 (fun z => z hH) (Or.inr (zbp hc67))) (by decide))
            | exact zV.less (L' := [some (.ref y), some (.int x), none, none]) ⟨rfl, rfl, trivial⟩ (k1 1 (zE2_1 (zbn hc51)) (by decide))
      · exact absurd z41 hc7
    | succ n ih =>
      intro i hi h1
      refine zz_iload_n (pc := 4) C dX3_beginSession_4 rfl ?_
      refine zz_bipush (pc := 5) C (v := 40) (by decide) dX3_beginSession_5 ?_
      refine zz_icmp_gt (pc := 7) C (tgt := 45) dX3_beginSession_7 (by decide) (fun hc7 => ?_) (fun hc7 => ?_)
      · exact absurd hc7 (z40 (by omega))
      · refine zz_iload_n (pc := 10) C dX3_beginSession_10 rfl ?_
        refine zz_if_ne (pc := 11) C (tgt := 33) dX3_beginSession_11 (by decide) (fun hc11 => ?_) (fun hc11 => ?_)
        · refine zz_iconst (pc := 33) C (v := 1) (by decide) dX3_beginSession_33 ?_
          refine zz_goto (pc := 34) C (tgt := 38) dX3_beginSession_34 (by decide) ?_
          refine zz_istore_n (pc := 38) C dX3_beginSession_38 (Nat.le_of_ble_eq_true rfl) ?_
          refine zz_iinc (pc := 39) C dX3_beginSession_39 rfl ?_
          refine zz_goto (pc := 42) C (tgt := 4) dX3_beginSession_42 (by decide) ?_
          first
            | exact zV.less (L' := [some (.ref y), some (.int x), some (.int (zb (zIsGrp σ x (i + 1)))), some (.int (nI (i + 1)))]) ⟨rfl, rfl, zvt (zIsGrp_succ.mpr (Or.inl (zb_ne.mp hc11))), zvi (z1i i), trivial⟩ (ih (i + 1) (by omega) (by omega))
            | exact zV.less (L' := [some (.ref y), some (.int x), some (.int (zb (zIsGrp σ x (i + 1)))), some (.int (nI (i + 1)))]) ⟨rfl, rfl, zvf (fun z => (zIsGrp_succ.mp z).elim (zbn hc11) (fun u => u.1 hc20)), zvi (z1i i), trivial⟩ (ih (i + 1) (by omega) (by omega))
            | exact zV.less (L' := [some (.ref y), some (.int x), some (.int (zb (zIsGrp σ x (i + 1)))), some (.int (nI (i + 1)))]) ⟨rfl, rfl, zvf (fun z => (zIsGrp_succ.mp z).elim (zbn hc11) (fun u => hc30 u.2)), zvi (z1i i), trivial⟩ (ih (i + 1) (by omega) (by omega))
            | exact zV.less (L' := [some (.ref y), some (.int x), some (.int (zb (zIsGrp σ x (i + 1)))), some (.int (nI (i + 1)))]) ⟨rfl, rfl, zvt (zIsGrp_succ.mpr (Or.inr ⟨hc20, Classical.not_not.mp hc30⟩)), zvi (z1i i), trivial⟩ (ih (i + 1) (by omega) (by omega))
        · refine zz_aload_n (pc := 14) C dX3_beginSession_14 rfl ?_
          refine zz_get (pc := 15) C in_X3_beginSession_X3 (ci := 3) rfl 0 (by decide) (fl_X3_beginSession_7) rfl dX3_beginSession_15 hR.2.1 rfl ?_
          refine zz_iload_n (pc := 18) C dX3_beginSession_18 rfl ?_
          refine zz_mldz (pc := 19) C hR 0 (by decide) rfl dX3_beginSession_19 rfl (by show _ < 41; omega) ?_
          refine zz_if_eq (pc := 20) C (tgt := 37) dX3_beginSession_20 (by decide) (fun hc20 => ?_) (fun hc20 => ?_)
          · refine zz_iconst (pc := 37) C (v := 0) (by decide) dX3_beginSession_37 ?_
            refine zz_istore_n (pc := 38) C dX3_beginSession_38 (Nat.le_of_ble_eq_true rfl) ?_
            refine zz_iinc (pc := 39) C dX3_beginSession_39 rfl ?_
            refine zz_goto (pc := 42) C (tgt := 4) dX3_beginSession_42 (by decide) ?_
            first
              | exact zV.less (L' := [some (.ref y), some (.int x), some (.int (zb (zIsGrp σ x (i + 1)))), some (.int (nI (i + 1)))]) ⟨rfl, rfl, zvt (zIsGrp_succ.mpr (Or.inl (zb_ne.mp hc11))), zvi (z1i i), trivial⟩ (ih (i + 1) (by omega) (by omega))
              | exact zV.less (L' := [some (.ref y), some (.int x), some (.int (zb (zIsGrp σ x (i + 1)))), some (.int (nI (i + 1)))]) ⟨rfl, rfl, zvf (fun z => (zIsGrp_succ.mp z).elim (zbn hc11) (fun u => u.1 hc20)), zvi (z1i i), trivial⟩ (ih (i + 1) (by omega) (by omega))
              | exact zV.less (L' := [some (.ref y), some (.int x), some (.int (zb (zIsGrp σ x (i + 1)))), some (.int (nI (i + 1)))]) ⟨rfl, rfl, zvf (fun z => (zIsGrp_succ.mp z).elim (zbn hc11) (fun u => hc30 u.2)), zvi (z1i i), trivial⟩ (ih (i + 1) (by omega) (by omega))
              | exact zV.less (L' := [some (.ref y), some (.int x), some (.int (zb (zIsGrp σ x (i + 1)))), some (.int (nI (i + 1)))]) ⟨rfl, rfl, zvt (zIsGrp_succ.mpr (Or.inr ⟨hc20, Classical.not_not.mp hc30⟩)), zvi (z1i i), trivial⟩ (ih (i + 1) (by omega) (by omega))
          · refine zz_aload_n (pc := 23) C dX3_beginSession_23 rfl ?_
            refine zz_get (pc := 24) C in_X3_beginSession_X3 (ci := 3) rfl 2 (by decide) (fl_X3_beginSession_17) rfl dX3_beginSession_24 hR.2.1 rfl ?_
            refine zz_iload_n (pc := 27) C dX3_beginSession_27 rfl ?_
            refine zz_mld (pc := 28) C hR 2 (by decide) rfl dX3_beginSession_28 rfl (by show _ < 41; omega) ?_
            refine zz_iload_n (pc := 29) C dX3_beginSession_29 rfl ?_
            refine zz_icmp_ne (pc := 30) C (tgt := 37) dX3_beginSession_30 (by decide) (fun hc30 => ?_) (fun hc30 => ?_)
            · refine zz_iconst (pc := 37) C (v := 0) (by decide) dX3_beginSession_37 ?_
              refine zz_istore_n (pc := 38) C dX3_beginSession_38 (Nat.le_of_ble_eq_true rfl) ?_
              refine zz_iinc (pc := 39) C dX3_beginSession_39 rfl ?_
              refine zz_goto (pc := 42) C (tgt := 4) dX3_beginSession_42 (by decide) ?_
              first
                | exact zV.less (L' := [some (.ref y), some (.int x), some (.int (zb (zIsGrp σ x (i + 1)))), some (.int (nI (i + 1)))]) ⟨rfl, rfl, zvt (zIsGrp_succ.mpr (Or.inl (zb_ne.mp hc11))), zvi (z1i i), trivial⟩ (ih (i + 1) (by omega) (by omega))
                | exact zV.less (L' := [some (.ref y), some (.int x), some (.int (zb (zIsGrp σ x (i + 1)))), some (.int (nI (i + 1)))]) ⟨rfl, rfl, zvf (fun z => (zIsGrp_succ.mp z).elim (zbn hc11) (fun u => u.1 hc20)), zvi (z1i i), trivial⟩ (ih (i + 1) (by omega) (by omega))
                | exact zV.less (L' := [some (.ref y), some (.int x), some (.int (zb (zIsGrp σ x (i + 1)))), some (.int (nI (i + 1)))]) ⟨rfl, rfl, zvf (fun z => (zIsGrp_succ.mp z).elim (zbn hc11) (fun u => hc30 u.2)), zvi (z1i i), trivial⟩ (ih (i + 1) (by omega) (by omega))
                | exact zV.less (L' := [some (.ref y), some (.int x), some (.int (zb (zIsGrp σ x (i + 1)))), some (.int (nI (i + 1)))]) ⟨rfl, rfl, zvt (zIsGrp_succ.mpr (Or.inr ⟨hc20, Classical.not_not.mp hc30⟩)), zvi (z1i i), trivial⟩ (ih (i + 1) (by omega) (by omega))
            · refine zz_iconst (pc := 33) C (v := 1) (by decide) dX3_beginSession_33 ?_
              refine zz_goto (pc := 34) C (tgt := 38) dX3_beginSession_34 (by decide) ?_
              refine zz_istore_n (pc := 38) C dX3_beginSession_38 (Nat.le_of_ble_eq_true rfl) ?_
              refine zz_iinc (pc := 39) C dX3_beginSession_39 rfl ?_
              refine zz_goto (pc := 42) C (tgt := 4) dX3_beginSession_42 (by decide) ?_
              first
                | exact zV.less (L' := [some (.ref y), some (.int x), some (.int (zb (zIsGrp σ x (i + 1)))), some (.int (nI (i + 1)))]) ⟨rfl, rfl, zvt (zIsGrp_succ.mpr (Or.inl (zb_ne.mp hc11))), zvi (z1i i), trivial⟩ (ih (i + 1) (by omega) (by omega))
                | exact zV.less (L' := [some (.ref y), some (.int x), some (.int (zb (zIsGrp σ x (i + 1)))), some (.int (nI (i + 1)))]) ⟨rfl, rfl, zvf (fun z => (zIsGrp_succ.mp z).elim (zbn hc11) (fun u => u.1 hc20)), zvi (z1i i), trivial⟩ (ih (i + 1) (by omega) (by omega))
                | exact zV.less (L' := [some (.ref y), some (.int x), some (.int (zb (zIsGrp σ x (i + 1)))), some (.int (nI (i + 1)))]) ⟨rfl, rfl, zvf (fun z => (zIsGrp_succ.mp z).elim (zbn hc11) (fun u => hc30 u.2)), zvi (z1i i), trivial⟩ (ih (i + 1) (by omega) (by omega))
                | exact zV.less (L' := [some (.ref y), some (.int x), some (.int (zb (zIsGrp σ x (i + 1)))), some (.int (nI (i + 1)))]) ⟨rfl, rfl, zvt (zIsGrp_succ.mpr (Or.inr ⟨hc20, Classical.not_not.mp hc30⟩)), zvi (z1i i), trivial⟩ (ih (i + 1) (by omega) (by omega))
  refine zz_iconst (pc := 0) C (v := 0) (by decide) dX3_beginSession_0 ?_
  refine zz_istore_n (pc := 1) C dX3_beginSession_1 (Nat.le_of_ble_eq_true rfl) ?_
  refine zz_iconst (pc := 2) C (v := 1) (by decide) dX3_beginSession_2 ?_
  refine zz_istore_n (pc := 3) C dX3_beginSession_3 (Nat.le_of_ble_eq_true rfl) ?_
  exact zV.less (L' := [some (.ref y), some (.int x), some (.int (zb (zIsGrp σ x 1))), some (.int (nI (1)))]) ⟨rfl, rfl, zvf (fun z => z (fun k hk q => by have h9 : k = 0 := (by omega); subst h9; exact q.1 h00)), zvi rfl, trivial⟩ (loop 40 1 rfl (Nat.le_refl _))
theorem fl_X3_isIn_20 : Cond.fieldLink RX3 20 "SignalpostModel" "session" "[I" ∈ wsX3_isIn := by decide +kernel
theorem in_X3_isIn_X3 : ∀ w ∈ u_ws RX3 TX3 29, w ∈ wsX3_isIn := by decide +kernel
set_option maxHeartbeats 4000000 in
set_option maxRecDepth 100000 in
theorem c_X3_isIn (l : Launch) (D : va_G) {B G : zG} {y : Nat} {ma : Nat → Nat} {r : zS} {g9 s9 : Int32} (hR : zModR B y ma r G) (h00 : r 0 0 = 0) : zMet D l yX3_isIn wsX3_isIn ({ frames := 1, cells := 0, slots := 0, locals := 22 } : Room) [.ref y, .int g9, .int s9] G (fun v G9 => v = some (.int (zb (zIsIn r g9 s9 41))) ∧ G9 = G) := by
  refine zMet_of (cc := cX3_isIn) (maxL := 5) (ret := (some .boolean)) (by decide) rfl (Nat.le_of_ble_eq_true rfl) ?_
  intro p e s m args below meth c C hmn
  have loop : ∀ (n i : Nat), i + n = 41 → 1 ≤ i → zV p l e ({ frames := 1, cells := 0, slots := 0, locals := 22 } : Room) s m args below meth c D (zA G s.heap.size) 0 0 (zZ below D G (fun v G9 => v = some (.int (zb (zIsIn r g9 s9 41))) ∧ G9 = G) args s ({ frames := 1, cells := 0, slots := 0, locals := 22 } : Room)) G 5 [some (.ref y), some (.int g9), some (.int s9), some (.int (zb (zIsIn r g9 s9 i))), some (.int (nI (i)))] [] := by
    intro n
    induction n with
    | zero =>
      intro i hi h1
      have hi41 : i = 41 := by omega
      subst hi41
      refine zz_iload (pc := 5) C dX3_isIn_5 rfl ?_
      refine zz_bipush (pc := 7) C (v := 40) (by decide) dX3_isIn_7 ?_
      refine zz_icmp_gt (pc := 9) C (tgt := 49) dX3_isIn_9 (by decide) (fun hc9 => ?_) (fun hc9 => ?_)
      · refine zz_iload_n (pc := 49) C dX3_isIn_49 rfl ?_
        exact zz_ireturn (pc := 50) C dX3_isIn_50 zb_nar (Nat.le_refl _) (Nat.le_refl _) ⟨rfl, rfl⟩
      · exact absurd z41 hc9
    | succ n ih =>
      intro i hi h1
      refine zz_iload (pc := 5) C dX3_isIn_5 rfl ?_
      refine zz_bipush (pc := 7) C (v := 40) (by decide) dX3_isIn_7 ?_
      refine zz_icmp_gt (pc := 9) C (tgt := 49) dX3_isIn_9 (by decide) (fun hc9 => ?_) (fun hc9 => ?_)
      · exact absurd hc9 (z40 (by omega))
      · refine zz_iload_n (pc := 12) C dX3_isIn_12 rfl ?_
        refine zz_if_ne (pc := 13) C (tgt := 37) dX3_isIn_13 (by decide) (fun hc13 => ?_) (fun hc13 => ?_)
        · refine zz_iconst (pc := 37) C (v := 1) (by decide) dX3_isIn_37 ?_
          refine zz_goto (pc := 38) C (tgt := 42) dX3_isIn_38 (by decide) ?_
          refine zz_istore_n (pc := 42) C dX3_isIn_42 (Nat.le_of_ble_eq_true rfl) ?_
          refine zz_iinc (pc := 43) C dX3_isIn_43 rfl ?_
          refine zz_goto (pc := 46) C (tgt := 5) dX3_isIn_46 (by decide) ?_
          first
            | exact zV.less (L' := [some (.ref y), some (.int g9), some (.int s9), some (.int (zb (zIsIn r g9 s9 (i + 1)))), some (.int (nI (i + 1)))]) ⟨rfl, rfl, rfl, zvt (zIsIn_succ.mpr (Or.inl (zb_ne.mp hc13))), zvi (z1i i), trivial⟩ (ih (i + 1) (by omega) (by omega))
            | exact zV.less (L' := [some (.ref y), some (.int g9), some (.int s9), some (.int (zb (zIsIn r g9 s9 (i + 1)))), some (.int (nI (i + 1)))]) ⟨rfl, rfl, rfl, zvf (fun z => (zIsIn_succ.mp z).elim (zbn hc13) (fun u => zb_eq.mp hc23 u.1)), zvi (z1i i), trivial⟩ (ih (i + 1) (by omega) (by omega))
            | exact zV.less (L' := [some (.ref y), some (.int g9), some (.int s9), some (.int (zb (zIsIn r g9 s9 (i + 1)))), some (.int (nI (i + 1)))]) ⟨rfl, rfl, rfl, zvf (fun z => (zIsIn_succ.mp z).elim (zbn hc13) (fun u => hc34 u.2)), zvi (z1i i), trivial⟩ (ih (i + 1) (by omega) (by omega))
            | exact zV.less (L' := [some (.ref y), some (.int g9), some (.int s9), some (.int (zb (zIsIn r g9 s9 (i + 1)))), some (.int (nI (i + 1)))]) ⟨rfl, rfl, rfl, zvt (zIsIn_succ.mpr (Or.inr ⟨zbp hc23, Classical.not_not.mp hc34⟩)), zvi (z1i i), trivial⟩ (ih (i + 1) (by omega) (by omega))
        · refine zz_aload_n (pc := 16) C dX3_isIn_16 rfl ?_
          refine zz_iload (pc := 17) C dX3_isIn_17 rfl ?_
          refine zz_iload_n (pc := 19) C dX3_isIn_19 rfl ?_
          refine zz_callV (pc := 20) C (c_X3_isMember l D hR (k := i) (g := g9) (by omega)) gX3_isIn_X3_isMember rfl 2 (by decide +kernel) ⟨Nat.le_of_ble_eq_true rfl, Nat.le_of_ble_eq_true rfl⟩ hR.2.1 (ci := 3) rfl rfl rfl dX3_isIn_20 rfl (Nat.le_of_ble_eq_true rfl) rfl ⟨Nat.le_of_ble_eq_true rfl, Nat.le_of_ble_eq_true rfl⟩ ?_
          rintro v G9 ⟨rfl, rfl⟩
          refine zz_if_eq (pc := 23) C (tgt := 41) dX3_isIn_23 (by decide) (fun hc23 => ?_) (fun hc23 => ?_)
          · refine zz_iconst (pc := 41) C (v := 0) (by decide) dX3_isIn_41 ?_
            refine zz_istore_n (pc := 42) C dX3_isIn_42 (Nat.le_of_ble_eq_true rfl) ?_
            refine zz_iinc (pc := 43) C dX3_isIn_43 rfl ?_
            refine zz_goto (pc := 46) C (tgt := 5) dX3_isIn_46 (by decide) ?_
            first
              | exact zV.less (L' := [some (.ref y), some (.int g9), some (.int s9), some (.int (zb (zIsIn r g9 s9 (i + 1)))), some (.int (nI (i + 1)))]) ⟨rfl, rfl, rfl, zvt (zIsIn_succ.mpr (Or.inl (zb_ne.mp hc13))), zvi (z1i i), trivial⟩ (ih (i + 1) (by omega) (by omega))
              | exact zV.less (L' := [some (.ref y), some (.int g9), some (.int s9), some (.int (zb (zIsIn r g9 s9 (i + 1)))), some (.int (nI (i + 1)))]) ⟨rfl, rfl, rfl, zvf (fun z => (zIsIn_succ.mp z).elim (zbn hc13) (fun u => zb_eq.mp hc23 u.1)), zvi (z1i i), trivial⟩ (ih (i + 1) (by omega) (by omega))
              | exact zV.less (L' := [some (.ref y), some (.int g9), some (.int s9), some (.int (zb (zIsIn r g9 s9 (i + 1)))), some (.int (nI (i + 1)))]) ⟨rfl, rfl, rfl, zvf (fun z => (zIsIn_succ.mp z).elim (zbn hc13) (fun u => hc34 u.2)), zvi (z1i i), trivial⟩ (ih (i + 1) (by omega) (by omega))
              | exact zV.less (L' := [some (.ref y), some (.int g9), some (.int s9), some (.int (zb (zIsIn r g9 s9 (i + 1)))), some (.int (nI (i + 1)))]) ⟨rfl, rfl, rfl, zvt (zIsIn_succ.mpr (Or.inr ⟨zbp hc23, Classical.not_not.mp hc34⟩)), zvi (z1i i), trivial⟩ (ih (i + 1) (by omega) (by omega))
          · refine zz_aload_n (pc := 26) C dX3_isIn_26 rfl ?_
            refine zz_get (pc := 27) C in_X3_isIn_X3 (ci := 3) rfl 3 (by decide) (fl_X3_isIn_20) rfl dX3_isIn_27 hR.2.1 rfl ?_
            refine zz_iload (pc := 30) C dX3_isIn_30 rfl ?_
            refine zz_mld (pc := 32) C hR 3 (by decide) rfl dX3_isIn_32 rfl (by show _ < 41; omega) ?_
            refine zz_iload_n (pc := 33) C dX3_isIn_33 rfl ?_
            refine zz_icmp_ne (pc := 34) C (tgt := 41) dX3_isIn_34 (by decide) (fun hc34 => ?_) (fun hc34 => ?_)
            · refine zz_iconst (pc := 41) C (v := 0) (by decide) dX3_isIn_41 ?_
              refine zz_istore_n (pc := 42) C dX3_isIn_42 (Nat.le_of_ble_eq_true rfl) ?_
              refine zz_iinc (pc := 43) C dX3_isIn_43 rfl ?_
              refine zz_goto (pc := 46) C (tgt := 5) dX3_isIn_46 (by decide) ?_
              first
                | exact zV.less (L' := [some (.ref y), some (.int g9), some (.int s9), some (.int (zb (zIsIn r g9 s9 (i + 1)))), some (.int (nI (i + 1)))]) ⟨rfl, rfl, rfl, zvt (zIsIn_succ.mpr (Or.inl (zb_ne.mp hc13))), zvi (z1i i), trivial⟩ (ih (i + 1) (by omega) (by omega))
                | exact zV.less (L' := [some (.ref y), some (.int g9), some (.int s9), some (.int (zb (zIsIn r g9 s9 (i + 1)))), some (.int (nI (i + 1)))]) ⟨rfl, rfl, rfl, zvf (fun z => (zIsIn_succ.mp z).elim (zbn hc13) (fun u => zb_eq.mp hc23 u.1)), zvi (z1i i), trivial⟩ (ih (i + 1) (by omega) (by omega))
                | exact zV.less (L' := [some (.ref y), some (.int g9), some (.int s9), some (.int (zb (zIsIn r g9 s9 (i + 1)))), some (.int (nI (i + 1)))]) ⟨rfl, rfl, rfl, zvf (fun z => (zIsIn_succ.mp z).elim (zbn hc13) (fun u => hc34 u.2)), zvi (z1i i), trivial⟩ (ih (i + 1) (by omega) (by omega))
                | exact zV.less (L' := [some (.ref y), some (.int g9), some (.int s9), some (.int (zb (zIsIn r g9 s9 (i + 1)))), some (.int (nI (i + 1)))]) ⟨rfl, rfl, rfl, zvt (zIsIn_succ.mpr (Or.inr ⟨zbp hc23, Classical.not_not.mp hc34⟩)), zvi (z1i i), trivial⟩ (ih (i + 1) (by omega) (by omega))
            · refine zz_iconst (pc := 37) C (v := 1) (by decide) dX3_isIn_37 ?_
              refine zz_goto (pc := 38) C (tgt := 42) dX3_isIn_38 (by decide) ?_
              refine zz_istore_n (pc := 42) C dX3_isIn_42 (Nat.le_of_ble_eq_true rfl) ?_
              refine zz_iinc (pc := 43) C dX3_isIn_43 rfl ?_
              refine zz_goto (pc := 46) C (tgt := 5) dX3_isIn_46 (by decide) ?_
              first
                | exact zV.less (L' := [some (.ref y), some (.int g9), some (.int s9), some (.int (zb (zIsIn r g9 s9 (i + 1)))), some (.int (nI (i + 1)))]) ⟨rfl, rfl, rfl, zvt (zIsIn_succ.mpr (Or.inl (zb_ne.mp hc13))), zvi (z1i i), trivial⟩ (ih (i + 1) (by omega) (by omega))
                | exact zV.less (L' := [some (.ref y), some (.int g9), some (.int s9), some (.int (zb (zIsIn r g9 s9 (i + 1)))), some (.int (nI (i + 1)))]) ⟨rfl, rfl, rfl, zvf (fun z => (zIsIn_succ.mp z).elim (zbn hc13) (fun u => zb_eq.mp hc23 u.1)), zvi (z1i i), trivial⟩ (ih (i + 1) (by omega) (by omega))
                | exact zV.less (L' := [some (.ref y), some (.int g9), some (.int s9), some (.int (zb (zIsIn r g9 s9 (i + 1)))), some (.int (nI (i + 1)))]) ⟨rfl, rfl, rfl, zvf (fun z => (zIsIn_succ.mp z).elim (zbn hc13) (fun u => hc34 u.2)), zvi (z1i i), trivial⟩ (ih (i + 1) (by omega) (by omega))
                | exact zV.less (L' := [some (.ref y), some (.int g9), some (.int s9), some (.int (zb (zIsIn r g9 s9 (i + 1)))), some (.int (nI (i + 1)))]) ⟨rfl, rfl, rfl, zvt (zIsIn_succ.mpr (Or.inr ⟨zbp hc23, Classical.not_not.mp hc34⟩)), zvi (z1i i), trivial⟩ (ih (i + 1) (by omega) (by omega))
  refine zz_iconst (pc := 0) C (v := 0) (by decide) dX3_isIn_0 ?_
  refine zz_istore_n (pc := 1) C dX3_isIn_1 (Nat.le_of_ble_eq_true rfl) ?_
  refine zz_iconst (pc := 2) C (v := 1) (by decide) dX3_isIn_2 ?_
  refine zz_istore (pc := 3) C dX3_isIn_3 (Nat.le_of_ble_eq_true rfl) ?_
  exact zV.less (L' := [some (.ref y), some (.int g9), some (.int s9), some (.int (zb (zIsIn r g9 s9 1))), some (.int (nI (1)))]) ⟨rfl, rfl, rfl, zvf (fun z => z (fun k hk q => by have h9 : k = 0 := (by omega); subst h9; exact q.1.1 h00)), zvi rfl, trivial⟩ (loop 40 1 rfl (Nat.le_refl _))
theorem zg1 {g : Int32} (h : g ≤ 0) : g < 1 := Int32.lt_of_le_of_lt h (by decide)
theorem zg2 {g : Int32} (h : ¬ g ≤ 0) : ¬ g < 1 := fun q => h (by
  have h0 : 0 < g := Int32.not_le.mp h
  have h1 := Int32.lt_iff_toInt_lt.mp h0
  have h2 := Int32.lt_iff_toInt_lt.mp q
  have h3 : (0 : Int32).toInt = 0 := by decide
  have h4 : (1 : Int32).toInt = 1 := by decide
  omega)
theorem fl_X3_setForeground_20 : Cond.fieldLink RX3 20 "SignalpostModel" "session" "[I" ∈ wsX3_setForeground := by decide +kernel
theorem fl_X3_setForeground_74 : Cond.fieldLink RX3 74 "SignalpostModel" "terminal" "I" ∈ wsX3_setForeground := by decide +kernel
theorem fl_X3_setForeground_78 : Cond.fieldLink RX3 78 "SignalpostModel" "foreground" "I" ∈ wsX3_setForeground := by decide +kernel
theorem in_X3_setForeground_X3 : ∀ w ∈ u_ws RX3 TX3 29, w ∈ wsX3_setForeground := by decide +kernel
set_option maxHeartbeats 4000000 in
set_option maxRecDepth 100000 in
theorem c_X3_setForeground (l : Launch) (D : va_G) {B G : zG} {y : Nat} {ma : Nat → Nat} {r : zS} {σ : zS} {x g9 : Int32} (hR : zModR B y ma r G) (hag : zAg r σ) (hring : zRing r []) (h00 : σ 0 0 = 0) : zMet D l yX3_setForeground wsX3_setForeground ({ frames := 2, cells := 0, slots := 0, locals := 46 } : Room) [.ref y, .int x, .int g9] G (fun v G9 => v = some (.int (if zE3 (¬ zHere σ x) (g9 < 1 ∨ (40 : Int32) < g9) (zNot σ (pn x) ∨ σ 3 (pn x) ≠ σ 21 0 ∨ ¬ zIsIn σ g9 (σ 3 (pn x)) 41) = 0 then σ 22 0 else 0)) ∧ zMod B y ma (if zE3 (¬ zHere σ x) (g9 < 1 ∨ (40 : Int32) < g9) (zNot σ (pn x) ∨ σ 3 (pn x) ≠ σ 21 0 ∨ ¬ zIsIn σ g9 (σ 3 (pn x)) 41) = 0 then zu σ 22 0 g9 else σ) [] (zE3 (¬ zHere σ x) (g9 < 1 ∨ (40 : Int32) < g9) (zNot σ (pn x) ∨ σ 3 (pn x) ≠ σ 21 0 ∨ ¬ zIsIn σ g9 (σ 3 (pn x)) 41)) G9) := by
  refine zMet_of (cc := cX3_setForeground) (maxL := 5) (ret := (some .int)) (by decide) rfl (Nat.le_of_ble_eq_true rfl) ?_
  intro p e s m args below meth c C hmn
  obtain ⟨t9, rfl⟩ : ∃ t9, r = zMix σ t9 := ⟨r, zMix_of hag⟩
  have k0 : zE3 (¬ zHere σ x) (g9 < 1 ∨ (40 : Int32) < g9) (zNot σ (pn x) ∨ σ 3 (pn x) ≠ σ 21 0 ∨ ¬ zIsIn σ g9 (σ 3 (pn x)) 41) = 0 → zV p l e ({ frames := 2, cells := 0, slots := 0, locals := 46 } : Room) s m args below meth c D (zA G s.heap.size) 0 0 (zZ below D G (fun v G9 => v = some (.int (if zE3 (¬ zHere σ x) (g9 < 1 ∨ (40 : Int32) < g9) (zNot σ (pn x) ∨ σ 3 (pn x) ≠ σ 21 0 ∨ ¬ zIsIn σ g9 (σ 3 (pn x)) 41) = 0 then σ 22 0 else 0)) ∧ zMod B y ma (if zE3 (¬ zHere σ x) (g9 < 1 ∨ (40 : Int32) < g9) (zNot σ (pn x) ∨ σ 3 (pn x) ≠ σ 21 0 ∨ ¬ zIsIn σ g9 (σ 3 (pn x)) 41) = 0 then zu σ 22 0 g9 else σ) [] (zE3 (¬ zHere σ x) (g9 < 1 ∨ (40 : Int32) < g9) (zNot σ (pn x) ∨ σ 3 (pn x) ≠ σ 21 0 ∨ ¬ zIsIn σ g9 (σ 3 (pn x)) 41)) G9) args s ({ frames := 2, cells := 0, slots := 0, locals := 46 } : Room)) G 77 [some (.ref y), some (.int x), some (.int g9), none, none] [.int 0, .ref y] := by
    intro hT
    refine zz_callV (pc := 77) C (c_X3_fails l D hR (w := 0)) gX3_setForeground_X3_fails rfl 1 (by decide +kernel) ⟨Nat.le_of_ble_eq_true rfl, Nat.le_of_ble_eq_true rfl⟩ hR.2.1 (ci := 3) rfl rfl rfl dX3_setForeground_77 rfl (Nat.le_of_ble_eq_true rfl) rfl ⟨Nat.le_of_ble_eq_true rfl, Nat.le_of_ble_eq_true rfl⟩ ?_
    rintro v G9 ⟨rfl, hR⟩
    have hag : zAg (zu (zMix σ t9) 23 0 0) σ := zAg_off hag (by decide)
    have hring : zRing (zu (zMix σ t9) 23 0 0) [] := hring.ag rfl rfl rfl
    have h23 : (zu (zMix σ t9) 23 0 0) 23 0 = 0 := zu_self
    refine zz_if_eq (pc := 80) C (tgt := 85) dX3_setForeground_80 (by decide) (fun hc80 => ?_) (fun hc80 => ?_)
    · refine zz_aload_n (pc := 85) C dX3_setForeground_85 rfl ?_
      refine zz_get (pc := 86) C in_X3_setForeground_X3 (ci := 3) rfl 22 (by decide) (fl_X3_setForeground_78) rfl dX3_setForeground_86 hR.2.1 rfl ?_
      refine zz_istore (pc := 89) C dX3_setForeground_89 (Nat.le_of_ble_eq_true rfl) ?_
      refine zz_aload_n (pc := 91) C dX3_setForeground_91 rfl ?_
      refine zz_iload_n (pc := 92) C dX3_setForeground_92 rfl ?_
      refine zz_mput (pc := 93) C in_X3_setForeground_X3 hR 22 (by decide) fl_X3_setForeground_78 dX3_setForeground_93 (fun G hR => ?_)
      refine zz_iload (pc := 96) C dX3_setForeground_96 rfl ?_
      exact zz_ireturn (pc := 98) C dX3_setForeground_98 rfl (Nat.le_refl _) (Nat.le_refl _) ⟨zvok hT (rfl), zMod.ok hT hR (zAg_zu hag) h23 (hring.ag rfl rfl rfl)⟩
    · exact (z01 hc80).elim
  have k1 : ∀ w9 : Int32, zE3 (¬ zHere σ x) (g9 < 1 ∨ (40 : Int32) < g9) (zNot σ (pn x) ∨ σ 3 (pn x) ≠ σ 21 0 ∨ ¬ zIsIn σ g9 (σ 3 (pn x)) 41) = w9 → 0 < w9 → zV p l e ({ frames := 2, cells := 0, slots := 0, locals := 46 } : Room) s m args below meth c D (zA G s.heap.size) 0 0 (zZ below D G (fun v G9 => v = some (.int (if zE3 (¬ zHere σ x) (g9 < 1 ∨ (40 : Int32) < g9) (zNot σ (pn x) ∨ σ 3 (pn x) ≠ σ 21 0 ∨ ¬ zIsIn σ g9 (σ 3 (pn x)) 41) = 0 then σ 22 0 else 0)) ∧ zMod B y ma (if zE3 (¬ zHere σ x) (g9 < 1 ∨ (40 : Int32) < g9) (zNot σ (pn x) ∨ σ 3 (pn x) ≠ σ 21 0 ∨ ¬ zIsIn σ g9 (σ 3 (pn x)) 41) = 0 then zu σ 22 0 g9 else σ) [] (zE3 (¬ zHere σ x) (g9 < 1 ∨ (40 : Int32) < g9) (zNot σ (pn x) ∨ σ 3 (pn x) ≠ σ 21 0 ∨ ¬ zIsIn σ g9 (σ 3 (pn x)) 41)) G9) args s ({ frames := 2, cells := 0, slots := 0, locals := 46 } : Room)) G 77 [some (.ref y), some (.int x), some (.int g9), none, none] [.int w9, .ref y] := by
    intro w9 hT hw9
    refine zz_callV (pc := 77) C (c_X3_fails l D hR (w := w9)) gX3_setForeground_X3_fails rfl 1 (by decide +kernel) ⟨Nat.le_of_ble_eq_true rfl, Nat.le_of_ble_eq_true rfl⟩ hR.2.1 (ci := 3) rfl rfl rfl dX3_setForeground_77 rfl (Nat.le_of_ble_eq_true rfl) rfl ⟨Nat.le_of_ble_eq_true rfl, Nat.le_of_ble_eq_true rfl⟩ ?_
    rintro v G9 ⟨rfl, hR⟩
    have hag : zAg (zu (zMix σ t9) 23 0 w9) σ := zAg_off hag (by decide)
    have hring : zRing (zu (zMix σ t9) 23 0 w9) [] := hring.ag rfl rfl rfl
    have h23 : (zu (zMix σ t9) 23 0 w9) 23 0 = w9 := zu_self
    refine zz_if_eq (pc := 80) C (tgt := 85) dX3_setForeground_80 (by decide) (fun hc80 => ?_) (fun hc80 => ?_)
    · exact (zw0 hc80 hw9).elim
    · refine zz_iconst (pc := 83) C (v := 0) (by decide) dX3_setForeground_83 ?_
      exact zz_ireturn (pc := 84) C dX3_setForeground_84 (by first | rfl | decide) (Nat.le_refl _) (Nat.le_refl _) ⟨zvno hT hw9, zMod.no hT hw9 hR hag h23 hring⟩
  refine zz_iload_n (pc := 0) C dX3_setForeground_0 rfl ?_
  refine zz_if_le (pc := 1) C (tgt := 14) dX3_setForeground_1 (by decide) (fun hc1 => ?_) (fun hc1 => ?_)
  · refine zz_iconst (pc := 14) C (v := 0) (by decide) dX3_setForeground_14 ?_
    refine zz_istore_n (pc := 15) C dX3_setForeground_15 (Nat.le_of_ble_eq_true rfl) ?_
    refine zz_aload_n (pc := 16) C dX3_setForeground_16 rfl ?_
    refine zz_aload_n (pc := 17) C dX3_setForeground_17 rfl ?_
    refine zz_iload_n (pc := 18) C dX3_setForeground_18 rfl ?_
    refine zz_callV (pc := 19) C (c_X3_is l D hR (x := x)) gX3_setForeground_X3_is rfl 1 (by decide +kernel) ⟨Nat.le_of_ble_eq_true rfl, Nat.le_of_ble_eq_true rfl⟩ hR.2.1 (ci := 3) rfl rfl rfl dX3_setForeground_19 rfl (Nat.le_of_ble_eq_true rfl) rfl ⟨Nat.le_of_ble_eq_true rfl, Nat.le_of_ble_eq_true rfl⟩ ?_
    rintro v G9 ⟨rfl, rfl⟩
    refine zz_if_ne (pc := 22) C (tgt := 29) dX3_setForeground_22 (by decide) (fun hc22 => ?_) (fun hc22 => ?_)
    · have hH : zHere σ x := zbp hc22
      have hx := hH.at
      refine zz_iload_n (pc := 29) C dX3_setForeground_29 rfl ?_
      refine zz_if_ne (pc := 30) C (tgt := 37) dX3_setForeground_30 (by decide) (fun hc30 => ?_) (fun hc30 => ?_)
      · refine zz_aload_n (pc := 37) C dX3_setForeground_37 rfl ?_
        refine zz_iload_n (pc := 38) C dX3_setForeground_38 rfl ?_
        refine zz_callV (pc := 39) C (c_xcannot l D hR hx) gX3_setForeground_X3_cannot rfl 1 (by decide +kernel) ⟨Nat.le_of_ble_eq_true rfl, Nat.le_of_ble_eq_true rfl⟩ hR.2.1 (ci := 3) rfl rfl rfl dX3_setForeground_39 rfl (Nat.le_of_ble_eq_true rfl) rfl ⟨Nat.le_of_ble_eq_true rfl, Nat.le_of_ble_eq_true rfl⟩ ?_
        rintro v G9 ⟨rfl, rfl⟩
        refine zz_if_ne (pc := 42) C (tgt := 72) dX3_setForeground_42 (by decide) (fun hc42 => ?_) (fun hc42 => ?_)
        · refine zz_iconst (pc := 72) C (v := 3) (by decide) dX3_setForeground_72 ?_
          refine zz_goto (pc := 73) C (tgt := 77) dX3_setForeground_73 (by decide) ?_
          first
            | exact zV.less (L' := [some (.ref y), some (.int x), some (.int g9), none, none]) ⟨rfl, rfl, rfl, trivial⟩ (k0 (zE3_0 (fun z => z hH) (fun z => z.elim (zg2 hc1) hc7) (fun z => z.elim (zbn hc42) (fun u => u.elim (fun t => t (Classical.not_not.mp hc55)) (fun t => t (zb_ne.mp hc69))))))
            | exact zV.less (L' := [some (.ref y), some (.int x), some (.int g9), none, none]) ⟨rfl, rfl, rfl, trivial⟩ (k1 3 (zE3_3 (fun z => z hH) (fun z => z.elim (zg2 hc1) hc7) (Or.inl (zb_ne.mp hc42))) (by decide))
            | exact zV.less (L' := [some (.ref y), some (.int x), some (.int g9), none, none]) ⟨rfl, rfl, rfl, trivial⟩ (k1 3 (zE3_3 (fun z => z hH) (fun z => z.elim (zg2 hc1) hc7) (Or.inr (Or.inl hc55))) (by decide))
            | exact zV.less (L' := [some (.ref y), some (.int x), some (.int g9), none, none]) ⟨rfl, rfl, rfl, trivial⟩ (k1 3 (zE3_3 (fun z => z hH) (fun z => z.elim (zg2 hc1) hc7) (Or.inr (Or.inr (zbn hc69)))) (by decide))
            | exact zV.less (L' := [some (.ref y), some (.int x), some (.int g9), none, none]) ⟨rfl, rfl, rfl, trivial⟩ (k1 2 (zE3_2 (fun z => z hH) (Or.inl (zg1 hc1))) (by decide))
            | exact zV.less (L' := [some (.ref y), some (.int x), some (.int g9), none, none]) ⟨rfl, rfl, rfl, trivial⟩ (k1 2 (zE3_2 (fun z => z hH) (Or.inr hc7)) (by decide))
            | exact zV.less (L' := [some (.ref y), some (.int x), some (.int g9), none, none]) ⟨rfl, rfl, rfl, trivial⟩ (k1 1 (zE3_1 (zbn hc22)) (by decide))
            | exact absurd rfl hc30
            | exact absurd hc30 (by decide)
        · refine zz_aload_n (pc := 45) C dX3_setForeground_45 rfl ?_
          refine zz_get (pc := 46) C in_X3_setForeground_X3 (ci := 3) rfl 3 (by decide) (fl_X3_setForeground_20) rfl dX3_setForeground_46 hR.2.1 rfl ?_
          refine zz_iload_n (pc := 49) C dX3_setForeground_49 rfl ?_
          refine zz_mld (pc := 50) C hR 3 (by decide) rfl dX3_setForeground_50 hx.1 (by show _ < 41; have := hx.2.2; omega) ?_
          refine zz_aload_n (pc := 51) C dX3_setForeground_51 rfl ?_
          refine zz_get (pc := 52) C in_X3_setForeground_X3 (ci := 3) rfl 21 (by decide) (fl_X3_setForeground_74) rfl dX3_setForeground_52 hR.2.1 rfl ?_
          refine zz_icmp_ne (pc := 55) C (tgt := 72) dX3_setForeground_55 (by decide) (fun hc55 => ?_) (fun hc55 => ?_)
          · refine zz_iconst (pc := 72) C (v := 3) (by decide) dX3_setForeground_72 ?_
            refine zz_goto (pc := 73) C (tgt := 77) dX3_setForeground_73 (by decide) ?_
            first
              | exact zV.less (L' := [some (.ref y), some (.int x), some (.int g9), none, none]) ⟨rfl, rfl, rfl, trivial⟩ (k0 (zE3_0 (fun z => z hH) (fun z => z.elim (zg2 hc1) hc7) (fun z => z.elim (zbn hc42) (fun u => u.elim (fun t => t (Classical.not_not.mp hc55)) (fun t => t (zb_ne.mp hc69))))))
              | exact zV.less (L' := [some (.ref y), some (.int x), some (.int g9), none, none]) ⟨rfl, rfl, rfl, trivial⟩ (k1 3 (zE3_3 (fun z => z hH) (fun z => z.elim (zg2 hc1) hc7) (Or.inl (zb_ne.mp hc42))) (by decide))
              | exact zV.less (L' := [some (.ref y), some (.int x), some (.int g9), none, none]) ⟨rfl, rfl, rfl, trivial⟩ (k1 3 (zE3_3 (fun z => z hH) (fun z => z.elim (zg2 hc1) hc7) (Or.inr (Or.inl hc55))) (by decide))
              | exact zV.less (L' := [some (.ref y), some (.int x), some (.int g9), none, none]) ⟨rfl, rfl, rfl, trivial⟩ (k1 3 (zE3_3 (fun z => z hH) (fun z => z.elim (zg2 hc1) hc7) (Or.inr (Or.inr (zbn hc69)))) (by decide))
              | exact zV.less (L' := [some (.ref y), some (.int x), some (.int g9), none, none]) ⟨rfl, rfl, rfl, trivial⟩ (k1 2 (zE3_2 (fun z => z hH) (Or.inl (zg1 hc1))) (by decide))
              | exact zV.less (L' := [some (.ref y), some (.int x), some (.int g9), none, none]) ⟨rfl, rfl, rfl, trivial⟩ (k1 2 (zE3_2 (fun z => z hH) (Or.inr hc7)) (by decide))
              | exact zV.less (L' := [some (.ref y), some (.int x), some (.int g9), none, none]) ⟨rfl, rfl, rfl, trivial⟩ (k1 1 (zE3_1 (zbn hc22)) (by decide))
              | exact absurd rfl hc30
              | exact absurd hc30 (by decide)
          · refine zz_aload_n (pc := 58) C dX3_setForeground_58 rfl ?_
            refine zz_iload_n (pc := 59) C dX3_setForeground_59 rfl ?_
            refine zz_aload_n (pc := 60) C dX3_setForeground_60 rfl ?_
            refine zz_get (pc := 61) C in_X3_setForeground_X3 (ci := 3) rfl 3 (by decide) (fl_X3_setForeground_20) rfl dX3_setForeground_61 hR.2.1 rfl ?_
            refine zz_iload_n (pc := 64) C dX3_setForeground_64 rfl ?_
            refine zz_mld (pc := 65) C hR 3 (by decide) rfl dX3_setForeground_65 hx.1 (by show _ < 41; have := hx.2.2; omega) ?_
            refine zz_callV (pc := 66) C (c_X3_isIn l D hR (g9 := g9) (s9 := zMix σ t9 3 (pn x)) h00) gX3_setForeground_X3_isIn rfl 2 (by decide +kernel) ⟨Nat.le_of_ble_eq_true rfl, Nat.le_of_ble_eq_true rfl⟩ hR.2.1 (ci := 3) rfl rfl rfl dX3_setForeground_66 rfl (Nat.le_of_ble_eq_true rfl) rfl ⟨Nat.le_of_ble_eq_true rfl, Nat.le_of_ble_eq_true rfl⟩ ?_
            rintro v G9 ⟨rfl, rfl⟩
            refine zz_if_ne (pc := 69) C (tgt := 76) dX3_setForeground_69 (by decide) (fun hc69 => ?_) (fun hc69 => ?_)
            · refine zz_iconst (pc := 76) C (v := 0) (by decide) dX3_setForeground_76 ?_
              first
                | exact zV.less (L' := [some (.ref y), some (.int x), some (.int g9), none, none]) ⟨rfl, rfl, rfl, trivial⟩ (k0 (zE3_0 (fun z => z hH) (fun z => z.elim (zg2 hc1) hc7) (fun z => z.elim (zbn hc42) (fun u => u.elim (fun t => t (Classical.not_not.mp hc55)) (fun t => t (zb_ne.mp hc69))))))
                | exact zV.less (L' := [some (.ref y), some (.int x), some (.int g9), none, none]) ⟨rfl, rfl, rfl, trivial⟩ (k1 3 (zE3_3 (fun z => z hH) (fun z => z.elim (zg2 hc1) hc7) (Or.inl (zb_ne.mp hc42))) (by decide))
                | exact zV.less (L' := [some (.ref y), some (.int x), some (.int g9), none, none]) ⟨rfl, rfl, rfl, trivial⟩ (k1 3 (zE3_3 (fun z => z hH) (fun z => z.elim (zg2 hc1) hc7) (Or.inr (Or.inl hc55))) (by decide))
                | exact zV.less (L' := [some (.ref y), some (.int x), some (.int g9), none, none]) ⟨rfl, rfl, rfl, trivial⟩ (k1 3 (zE3_3 (fun z => z hH) (fun z => z.elim (zg2 hc1) hc7) (Or.inr (Or.inr (zbn hc69)))) (by decide))
                | exact zV.less (L' := [some (.ref y), some (.int x), some (.int g9), none, none]) ⟨rfl, rfl, rfl, trivial⟩ (k1 2 (zE3_2 (fun z => z hH) (Or.inl (zg1 hc1))) (by decide))
                | exact zV.less (L' := [some (.ref y), some (.int x), some (.int g9), none, none]) ⟨rfl, rfl, rfl, trivial⟩ (k1 2 (zE3_2 (fun z => z hH) (Or.inr hc7)) (by decide))
                | exact zV.less (L' := [some (.ref y), some (.int x), some (.int g9), none, none]) ⟨rfl, rfl, rfl, trivial⟩ (k1 1 (zE3_1 (zbn hc22)) (by decide))
                | exact absurd rfl hc30
                | exact absurd hc30 (by decide)
            · refine zz_iconst (pc := 72) C (v := 3) (by decide) dX3_setForeground_72 ?_
              refine zz_goto (pc := 73) C (tgt := 77) dX3_setForeground_73 (by decide) ?_
              first
                | exact zV.less (L' := [some (.ref y), some (.int x), some (.int g9), none, none]) ⟨rfl, rfl, rfl, trivial⟩ (k0 (zE3_0 (fun z => z hH) (fun z => z.elim (zg2 hc1) hc7) (fun z => z.elim (zbn hc42) (fun u => u.elim (fun t => t (Classical.not_not.mp hc55)) (fun t => t (zb_ne.mp hc69))))))
                | exact zV.less (L' := [some (.ref y), some (.int x), some (.int g9), none, none]) ⟨rfl, rfl, rfl, trivial⟩ (k1 3 (zE3_3 (fun z => z hH) (fun z => z.elim (zg2 hc1) hc7) (Or.inl (zb_ne.mp hc42))) (by decide))
                | exact zV.less (L' := [some (.ref y), some (.int x), some (.int g9), none, none]) ⟨rfl, rfl, rfl, trivial⟩ (k1 3 (zE3_3 (fun z => z hH) (fun z => z.elim (zg2 hc1) hc7) (Or.inr (Or.inl hc55))) (by decide))
                | exact zV.less (L' := [some (.ref y), some (.int x), some (.int g9), none, none]) ⟨rfl, rfl, rfl, trivial⟩ (k1 3 (zE3_3 (fun z => z hH) (fun z => z.elim (zg2 hc1) hc7) (Or.inr (Or.inr (zbn hc69)))) (by decide))
                | exact zV.less (L' := [some (.ref y), some (.int x), some (.int g9), none, none]) ⟨rfl, rfl, rfl, trivial⟩ (k1 2 (zE3_2 (fun z => z hH) (Or.inl (zg1 hc1))) (by decide))
                | exact zV.less (L' := [some (.ref y), some (.int x), some (.int g9), none, none]) ⟨rfl, rfl, rfl, trivial⟩ (k1 2 (zE3_2 (fun z => z hH) (Or.inr hc7)) (by decide))
                | exact zV.less (L' := [some (.ref y), some (.int x), some (.int g9), none, none]) ⟨rfl, rfl, rfl, trivial⟩ (k1 1 (zE3_1 (zbn hc22)) (by decide))
                | exact absurd rfl hc30
                | exact absurd hc30 (by decide)
      · refine zz_iconst (pc := 33) C (v := 2) (by decide) dX3_setForeground_33 ?_
        refine zz_goto (pc := 34) C (tgt := 77) dX3_setForeground_34 (by decide) ?_
        first
          | exact zV.less (L' := [some (.ref y), some (.int x), some (.int g9), none, none]) ⟨rfl, rfl, rfl, trivial⟩ (k0 (zE3_0 (fun z => z hH) (fun z => z.elim (zg2 hc1) hc7) (fun z => z.elim (zbn hc42) (fun u => u.elim (fun t => t (Classical.not_not.mp hc55)) (fun t => t (zb_ne.mp hc69))))))
          | exact zV.less (L' := [some (.ref y), some (.int x), some (.int g9), none, none]) ⟨rfl, rfl, rfl, trivial⟩ (k1 3 (zE3_3 (fun z => z hH) (fun z => z.elim (zg2 hc1) hc7) (Or.inl (zb_ne.mp hc42))) (by decide))
          | exact zV.less (L' := [some (.ref y), some (.int x), some (.int g9), none, none]) ⟨rfl, rfl, rfl, trivial⟩ (k1 3 (zE3_3 (fun z => z hH) (fun z => z.elim (zg2 hc1) hc7) (Or.inr (Or.inl hc55))) (by decide))
          | exact zV.less (L' := [some (.ref y), some (.int x), some (.int g9), none, none]) ⟨rfl, rfl, rfl, trivial⟩ (k1 3 (zE3_3 (fun z => z hH) (fun z => z.elim (zg2 hc1) hc7) (Or.inr (Or.inr (zbn hc69)))) (by decide))
          | exact zV.less (L' := [some (.ref y), some (.int x), some (.int g9), none, none]) ⟨rfl, rfl, rfl, trivial⟩ (k1 2 (zE3_2 (fun z => z hH) (Or.inl (zg1 hc1))) (by decide))
          | exact zV.less (L' := [some (.ref y), some (.int x), some (.int g9), none, none]) ⟨rfl, rfl, rfl, trivial⟩ (k1 2 (zE3_2 (fun z => z hH) (Or.inr hc7)) (by decide))
          | exact zV.less (L' := [some (.ref y), some (.int x), some (.int g9), none, none]) ⟨rfl, rfl, rfl, trivial⟩ (k1 1 (zE3_1 (zbn hc22)) (by decide))
          | exact absurd rfl hc30
          | exact absurd hc30 (by decide)
    · refine zz_iconst (pc := 25) C (v := 1) (by decide) dX3_setForeground_25 ?_
      refine zz_goto (pc := 26) C (tgt := 77) dX3_setForeground_26 (by decide) ?_
      first
        | exact zV.less (L' := [some (.ref y), some (.int x), some (.int g9), none, none]) ⟨rfl, rfl, rfl, trivial⟩ (k0 (zE3_0 (fun z => z hH) (fun z => z.elim (zg2 hc1) hc7) (fun z => z.elim (zbn hc42) (fun u => u.elim (fun t => t (Classical.not_not.mp hc55)) (fun t => t (zb_ne.mp hc69))))))
        | exact zV.less (L' := [some (.ref y), some (.int x), some (.int g9), none, none]) ⟨rfl, rfl, rfl, trivial⟩ (k1 3 (zE3_3 (fun z => z hH) (fun z => z.elim (zg2 hc1) hc7) (Or.inl (zb_ne.mp hc42))) (by decide))
        | exact zV.less (L' := [some (.ref y), some (.int x), some (.int g9), none, none]) ⟨rfl, rfl, rfl, trivial⟩ (k1 3 (zE3_3 (fun z => z hH) (fun z => z.elim (zg2 hc1) hc7) (Or.inr (Or.inl hc55))) (by decide))
        | exact zV.less (L' := [some (.ref y), some (.int x), some (.int g9), none, none]) ⟨rfl, rfl, rfl, trivial⟩ (k1 3 (zE3_3 (fun z => z hH) (fun z => z.elim (zg2 hc1) hc7) (Or.inr (Or.inr (zbn hc69)))) (by decide))
        | exact zV.less (L' := [some (.ref y), some (.int x), some (.int g9), none, none]) ⟨rfl, rfl, rfl, trivial⟩ (k1 2 (zE3_2 (fun z => z hH) (Or.inl (zg1 hc1))) (by decide))
        | exact zV.less (L' := [some (.ref y), some (.int x), some (.int g9), none, none]) ⟨rfl, rfl, rfl, trivial⟩ (k1 2 (zE3_2 (fun z => z hH) (Or.inr hc7)) (by decide))
        | exact zV.less (L' := [some (.ref y), some (.int x), some (.int g9), none, none]) ⟨rfl, rfl, rfl, trivial⟩ (k1 1 (zE3_1 (zbn hc22)) (by decide))
        | exact absurd rfl hc30
        | exact absurd hc30 (by decide)
  · refine zz_iload_n (pc := 4) C dX3_setForeground_4 rfl ?_
    refine zz_bipush (pc := 5) C (v := 40) (by decide) dX3_setForeground_5 ?_
    refine zz_icmp_gt (pc := 7) C (tgt := 14) dX3_setForeground_7 (by decide) (fun hc7 => ?_) (fun hc7 => ?_)
    · refine zz_iconst (pc := 14) C (v := 0) (by decide) dX3_setForeground_14 ?_
      refine zz_istore_n (pc := 15) C dX3_setForeground_15 (Nat.le_of_ble_eq_true rfl) ?_
      refine zz_aload_n (pc := 16) C dX3_setForeground_16 rfl ?_
      refine zz_aload_n (pc := 17) C dX3_setForeground_17 rfl ?_
      refine zz_iload_n (pc := 18) C dX3_setForeground_18 rfl ?_
      refine zz_callV (pc := 19) C (c_X3_is l D hR (x := x)) gX3_setForeground_X3_is rfl 1 (by decide +kernel) ⟨Nat.le_of_ble_eq_true rfl, Nat.le_of_ble_eq_true rfl⟩ hR.2.1 (ci := 3) rfl rfl rfl dX3_setForeground_19 rfl (Nat.le_of_ble_eq_true rfl) rfl ⟨Nat.le_of_ble_eq_true rfl, Nat.le_of_ble_eq_true rfl⟩ ?_
      rintro v G9 ⟨rfl, rfl⟩
      refine zz_if_ne (pc := 22) C (tgt := 29) dX3_setForeground_22 (by decide) (fun hc22 => ?_) (fun hc22 => ?_)
      · have hH : zHere σ x := zbp hc22
        have hx := hH.at
        refine zz_iload_n (pc := 29) C dX3_setForeground_29 rfl ?_
        refine zz_if_ne (pc := 30) C (tgt := 37) dX3_setForeground_30 (by decide) (fun hc30 => ?_) (fun hc30 => ?_)
        · refine zz_aload_n (pc := 37) C dX3_setForeground_37 rfl ?_
          refine zz_iload_n (pc := 38) C dX3_setForeground_38 rfl ?_
          refine zz_callV (pc := 39) C (c_xcannot l D hR hx) gX3_setForeground_X3_cannot rfl 1 (by decide +kernel) ⟨Nat.le_of_ble_eq_true rfl, Nat.le_of_ble_eq_true rfl⟩ hR.2.1 (ci := 3) rfl rfl rfl dX3_setForeground_39 rfl (Nat.le_of_ble_eq_true rfl) rfl ⟨Nat.le_of_ble_eq_true rfl, Nat.le_of_ble_eq_true rfl⟩ ?_
          rintro v G9 ⟨rfl, rfl⟩
          refine zz_if_ne (pc := 42) C (tgt := 72) dX3_setForeground_42 (by decide) (fun hc42 => ?_) (fun hc42 => ?_)
          · refine zz_iconst (pc := 72) C (v := 3) (by decide) dX3_setForeground_72 ?_
            refine zz_goto (pc := 73) C (tgt := 77) dX3_setForeground_73 (by decide) ?_
            first
              | exact zV.less (L' := [some (.ref y), some (.int x), some (.int g9), none, none]) ⟨rfl, rfl, rfl, trivial⟩ (k0 (zE3_0 (fun z => z hH) (fun z => z.elim (zg2 hc1) hc7) (fun z => z.elim (zbn hc42) (fun u => u.elim (fun t => t (Classical.not_not.mp hc55)) (fun t => t (zb_ne.mp hc69))))))
              | exact zV.less (L' := [some (.ref y), some (.int x), some (.int g9), none, none]) ⟨rfl, rfl, rfl, trivial⟩ (k1 3 (zE3_3 (fun z => z hH) (fun z => z.elim (zg2 hc1) hc7) (Or.inl (zb_ne.mp hc42))) (by decide))
              | exact zV.less (L' := [some (.ref y), some (.int x), some (.int g9), none, none]) ⟨rfl, rfl, rfl, trivial⟩ (k1 3 (zE3_3 (fun z => z hH) (fun z => z.elim (zg2 hc1) hc7) (Or.inr (Or.inl hc55))) (by decide))
              | exact zV.less (L' := [some (.ref y), some (.int x), some (.int g9), none, none]) ⟨rfl, rfl, rfl, trivial⟩ (k1 3 (zE3_3 (fun z => z hH) (fun z => z.elim (zg2 hc1) hc7) (Or.inr (Or.inr (zbn hc69)))) (by decide))
              | exact zV.less (L' := [some (.ref y), some (.int x), some (.int g9), none, none]) ⟨rfl, rfl, rfl, trivial⟩ (k1 2 (zE3_2 (fun z => z hH) (Or.inl (zg1 hc1))) (by decide))
              | exact zV.less (L' := [some (.ref y), some (.int x), some (.int g9), none, none]) ⟨rfl, rfl, rfl, trivial⟩ (k1 2 (zE3_2 (fun z => z hH) (Or.inr hc7)) (by decide))
              | exact zV.less (L' := [some (.ref y), some (.int x), some (.int g9), none, none]) ⟨rfl, rfl, rfl, trivial⟩ (k1 1 (zE3_1 (zbn hc22)) (by decide))
              | exact absurd rfl hc30
              | exact absurd hc30 (by decide)
          · refine zz_aload_n (pc := 45) C dX3_setForeground_45 rfl ?_
            refine zz_get (pc := 46) C in_X3_setForeground_X3 (ci := 3) rfl 3 (by decide) (fl_X3_setForeground_20) rfl dX3_setForeground_46 hR.2.1 rfl ?_
            refine zz_iload_n (pc := 49) C dX3_setForeground_49 rfl ?_
            refine zz_mld (pc := 50) C hR 3 (by decide) rfl dX3_setForeground_50 hx.1 (by show _ < 41; have := hx.2.2; omega) ?_
            refine zz_aload_n (pc := 51) C dX3_setForeground_51 rfl ?_
            refine zz_get (pc := 52) C in_X3_setForeground_X3 (ci := 3) rfl 21 (by decide) (fl_X3_setForeground_74) rfl dX3_setForeground_52 hR.2.1 rfl ?_
            refine zz_icmp_ne (pc := 55) C (tgt := 72) dX3_setForeground_55 (by decide) (fun hc55 => ?_) (fun hc55 => ?_)
            · refine zz_iconst (pc := 72) C (v := 3) (by decide) dX3_setForeground_72 ?_
              refine zz_goto (pc := 73) C (tgt := 77) dX3_setForeground_73 (by decide) ?_
              first
                | exact zV.less (L' := [some (.ref y), some (.int x), some (.int g9), none, none]) ⟨rfl, rfl, rfl, trivial⟩ (k0 (zE3_0 (fun z => z hH) (fun z => z.elim (zg2 hc1) hc7) (fun z => z.elim (zbn hc42) (fun u => u.elim (fun t => t (Classical.not_not.mp hc55)) (fun t => t (zb_ne.mp hc69))))))
                | exact zV.less (L' := [some (.ref y), some (.int x), some (.int g9), none, none]) ⟨rfl, rfl, rfl, trivial⟩ (k1 3 (zE3_3 (fun z => z hH) (fun z => z.elim (zg2 hc1) hc7) (Or.inl (zb_ne.mp hc42))) (by decide))
                | exact zV.less (L' := [some (.ref y), some (.int x), some (.int g9), none, none]) ⟨rfl, rfl, rfl, trivial⟩ (k1 3 (zE3_3 (fun z => z hH) (fun z => z.elim (zg2 hc1) hc7) (Or.inr (Or.inl hc55))) (by decide))
                | exact zV.less (L' := [some (.ref y), some (.int x), some (.int g9), none, none]) ⟨rfl, rfl, rfl, trivial⟩ (k1 3 (zE3_3 (fun z => z hH) (fun z => z.elim (zg2 hc1) hc7) (Or.inr (Or.inr (zbn hc69)))) (by decide))
                | exact zV.less (L' := [some (.ref y), some (.int x), some (.int g9), none, none]) ⟨rfl, rfl, rfl, trivial⟩ (k1 2 (zE3_2 (fun z => z hH) (Or.inl (zg1 hc1))) (by decide))
                | exact zV.less (L' := [some (.ref y), some (.int x), some (.int g9), none, none]) ⟨rfl, rfl, rfl, trivial⟩ (k1 2 (zE3_2 (fun z => z hH) (Or.inr hc7)) (by decide))
                | exact zV.less (L' := [some (.ref y), some (.int x), some (.int g9), none, none]) ⟨rfl, rfl, rfl, trivial⟩ (k1 1 (zE3_1 (zbn hc22)) (by decide))
                | exact absurd rfl hc30
                | exact absurd hc30 (by decide)
            · refine zz_aload_n (pc := 58) C dX3_setForeground_58 rfl ?_
              refine zz_iload_n (pc := 59) C dX3_setForeground_59 rfl ?_
              refine zz_aload_n (pc := 60) C dX3_setForeground_60 rfl ?_
              refine zz_get (pc := 61) C in_X3_setForeground_X3 (ci := 3) rfl 3 (by decide) (fl_X3_setForeground_20) rfl dX3_setForeground_61 hR.2.1 rfl ?_
              refine zz_iload_n (pc := 64) C dX3_setForeground_64 rfl ?_
              refine zz_mld (pc := 65) C hR 3 (by decide) rfl dX3_setForeground_65 hx.1 (by show _ < 41; have := hx.2.2; omega) ?_
              refine zz_callV (pc := 66) C (c_X3_isIn l D hR (g9 := g9) (s9 := zMix σ t9 3 (pn x)) h00) gX3_setForeground_X3_isIn rfl 2 (by decide +kernel) ⟨Nat.le_of_ble_eq_true rfl, Nat.le_of_ble_eq_true rfl⟩ hR.2.1 (ci := 3) rfl rfl rfl dX3_setForeground_66 rfl (Nat.le_of_ble_eq_true rfl) rfl ⟨Nat.le_of_ble_eq_true rfl, Nat.le_of_ble_eq_true rfl⟩ ?_
              rintro v G9 ⟨rfl, rfl⟩
              refine zz_if_ne (pc := 69) C (tgt := 76) dX3_setForeground_69 (by decide) (fun hc69 => ?_) (fun hc69 => ?_)
              · refine zz_iconst (pc := 76) C (v := 0) (by decide) dX3_setForeground_76 ?_
                first
                  | exact zV.less (L' := [some (.ref y), some (.int x), some (.int g9), none, none]) ⟨rfl, rfl, rfl, trivial⟩ (k0 (zE3_0 (fun z => z hH) (fun z => z.elim (zg2 hc1) hc7) (fun z => z.elim (zbn hc42) (fun u => u.elim (fun t => t (Classical.not_not.mp hc55)) (fun t => t (zb_ne.mp hc69))))))
                  | exact zV.less (L' := [some (.ref y), some (.int x), some (.int g9), none, none]) ⟨rfl, rfl, rfl, trivial⟩ (k1 3 (zE3_3 (fun z => z hH) (fun z => z.elim (zg2 hc1) hc7) (Or.inl (zb_ne.mp hc42))) (by decide))
                  | exact zV.less (L' := [some (.ref y), some (.int x), some (.int g9), none, none]) ⟨rfl, rfl, rfl, trivial⟩ (k1 3 (zE3_3 (fun z => z hH) (fun z => z.elim (zg2 hc1) hc7) (Or.inr (Or.inl hc55))) (by decide))
                  | exact zV.less (L' := [some (.ref y), some (.int x), some (.int g9), none, none]) ⟨rfl, rfl, rfl, trivial⟩ (k1 3 (zE3_3 (fun z => z hH) (fun z => z.elim (zg2 hc1) hc7) (Or.inr (Or.inr (zbn hc69)))) (by decide))
                  | exact zV.less (L' := [some (.ref y), some (.int x), some (.int g9), none, none]) ⟨rfl, rfl, rfl, trivial⟩ (k1 2 (zE3_2 (fun z => z hH) (Or.inl (zg1 hc1))) (by decide))
                  | exact zV.less (L' := [some (.ref y), some (.int x), some (.int g9), none, none]) ⟨rfl, rfl, rfl, trivial⟩ (k1 2 (zE3_2 (fun z => z hH) (Or.inr hc7)) (by decide))
                  | exact zV.less (L' := [some (.ref y), some (.int x), some (.int g9), none, none]) ⟨rfl, rfl, rfl, trivial⟩ (k1 1 (zE3_1 (zbn hc22)) (by decide))
                  | exact absurd rfl hc30
                  | exact absurd hc30 (by decide)
              · refine zz_iconst (pc := 72) C (v := 3) (by decide) dX3_setForeground_72 ?_
                refine zz_goto (pc := 73) C (tgt := 77) dX3_setForeground_73 (by decide) ?_
                first
                  | exact zV.less (L' := [some (.ref y), some (.int x), some (.int g9), none, none]) ⟨rfl, rfl, rfl, trivial⟩ (k0 (zE3_0 (fun z => z hH) (fun z => z.elim (zg2 hc1) hc7) (fun z => z.elim (zbn hc42) (fun u => u.elim (fun t => t (Classical.not_not.mp hc55)) (fun t => t (zb_ne.mp hc69))))))
                  | exact zV.less (L' := [some (.ref y), some (.int x), some (.int g9), none, none]) ⟨rfl, rfl, rfl, trivial⟩ (k1 3 (zE3_3 (fun z => z hH) (fun z => z.elim (zg2 hc1) hc7) (Or.inl (zb_ne.mp hc42))) (by decide))
                  | exact zV.less (L' := [some (.ref y), some (.int x), some (.int g9), none, none]) ⟨rfl, rfl, rfl, trivial⟩ (k1 3 (zE3_3 (fun z => z hH) (fun z => z.elim (zg2 hc1) hc7) (Or.inr (Or.inl hc55))) (by decide))
                  | exact zV.less (L' := [some (.ref y), some (.int x), some (.int g9), none, none]) ⟨rfl, rfl, rfl, trivial⟩ (k1 3 (zE3_3 (fun z => z hH) (fun z => z.elim (zg2 hc1) hc7) (Or.inr (Or.inr (zbn hc69)))) (by decide))
                  | exact zV.less (L' := [some (.ref y), some (.int x), some (.int g9), none, none]) ⟨rfl, rfl, rfl, trivial⟩ (k1 2 (zE3_2 (fun z => z hH) (Or.inl (zg1 hc1))) (by decide))
                  | exact zV.less (L' := [some (.ref y), some (.int x), some (.int g9), none, none]) ⟨rfl, rfl, rfl, trivial⟩ (k1 2 (zE3_2 (fun z => z hH) (Or.inr hc7)) (by decide))
                  | exact zV.less (L' := [some (.ref y), some (.int x), some (.int g9), none, none]) ⟨rfl, rfl, rfl, trivial⟩ (k1 1 (zE3_1 (zbn hc22)) (by decide))
                  | exact absurd rfl hc30
                  | exact absurd hc30 (by decide)
        · refine zz_iconst (pc := 33) C (v := 2) (by decide) dX3_setForeground_33 ?_
          refine zz_goto (pc := 34) C (tgt := 77) dX3_setForeground_34 (by decide) ?_
          first
            | exact zV.less (L' := [some (.ref y), some (.int x), some (.int g9), none, none]) ⟨rfl, rfl, rfl, trivial⟩ (k0 (zE3_0 (fun z => z hH) (fun z => z.elim (zg2 hc1) hc7) (fun z => z.elim (zbn hc42) (fun u => u.elim (fun t => t (Classical.not_not.mp hc55)) (fun t => t (zb_ne.mp hc69))))))
            | exact zV.less (L' := [some (.ref y), some (.int x), some (.int g9), none, none]) ⟨rfl, rfl, rfl, trivial⟩ (k1 3 (zE3_3 (fun z => z hH) (fun z => z.elim (zg2 hc1) hc7) (Or.inl (zb_ne.mp hc42))) (by decide))
            | exact zV.less (L' := [some (.ref y), some (.int x), some (.int g9), none, none]) ⟨rfl, rfl, rfl, trivial⟩ (k1 3 (zE3_3 (fun z => z hH) (fun z => z.elim (zg2 hc1) hc7) (Or.inr (Or.inl hc55))) (by decide))
            | exact zV.less (L' := [some (.ref y), some (.int x), some (.int g9), none, none]) ⟨rfl, rfl, rfl, trivial⟩ (k1 3 (zE3_3 (fun z => z hH) (fun z => z.elim (zg2 hc1) hc7) (Or.inr (Or.inr (zbn hc69)))) (by decide))
            | exact zV.less (L' := [some (.ref y), some (.int x), some (.int g9), none, none]) ⟨rfl, rfl, rfl, trivial⟩ (k1 2 (zE3_2 (fun z => z hH) (Or.inl (zg1 hc1))) (by decide))
            | exact zV.less (L' := [some (.ref y), some (.int x), some (.int g9), none, none]) ⟨rfl, rfl, rfl, trivial⟩ (k1 2 (zE3_2 (fun z => z hH) (Or.inr hc7)) (by decide))
            | exact zV.less (L' := [some (.ref y), some (.int x), some (.int g9), none, none]) ⟨rfl, rfl, rfl, trivial⟩ (k1 1 (zE3_1 (zbn hc22)) (by decide))
            | exact absurd rfl hc30
            | exact absurd hc30 (by decide)
      · refine zz_iconst (pc := 25) C (v := 1) (by decide) dX3_setForeground_25 ?_
        refine zz_goto (pc := 26) C (tgt := 77) dX3_setForeground_26 (by decide) ?_
        first
          | exact zV.less (L' := [some (.ref y), some (.int x), some (.int g9), none, none]) ⟨rfl, rfl, rfl, trivial⟩ (k0 (zE3_0 (fun z => z hH) (fun z => z.elim (zg2 hc1) hc7) (fun z => z.elim (zbn hc42) (fun u => u.elim (fun t => t (Classical.not_not.mp hc55)) (fun t => t (zb_ne.mp hc69))))))
          | exact zV.less (L' := [some (.ref y), some (.int x), some (.int g9), none, none]) ⟨rfl, rfl, rfl, trivial⟩ (k1 3 (zE3_3 (fun z => z hH) (fun z => z.elim (zg2 hc1) hc7) (Or.inl (zb_ne.mp hc42))) (by decide))
          | exact zV.less (L' := [some (.ref y), some (.int x), some (.int g9), none, none]) ⟨rfl, rfl, rfl, trivial⟩ (k1 3 (zE3_3 (fun z => z hH) (fun z => z.elim (zg2 hc1) hc7) (Or.inr (Or.inl hc55))) (by decide))
          | exact zV.less (L' := [some (.ref y), some (.int x), some (.int g9), none, none]) ⟨rfl, rfl, rfl, trivial⟩ (k1 3 (zE3_3 (fun z => z hH) (fun z => z.elim (zg2 hc1) hc7) (Or.inr (Or.inr (zbn hc69)))) (by decide))
          | exact zV.less (L' := [some (.ref y), some (.int x), some (.int g9), none, none]) ⟨rfl, rfl, rfl, trivial⟩ (k1 2 (zE3_2 (fun z => z hH) (Or.inl (zg1 hc1))) (by decide))
          | exact zV.less (L' := [some (.ref y), some (.int x), some (.int g9), none, none]) ⟨rfl, rfl, rfl, trivial⟩ (k1 2 (zE3_2 (fun z => z hH) (Or.inr hc7)) (by decide))
          | exact zV.less (L' := [some (.ref y), some (.int x), some (.int g9), none, none]) ⟨rfl, rfl, rfl, trivial⟩ (k1 1 (zE3_1 (zbn hc22)) (by decide))
          | exact absurd rfl hc30
          | exact absurd hc30 (by decide)
    · refine zz_iconst (pc := 10) C (v := 1) (by decide) dX3_setForeground_10 ?_
      refine zz_goto (pc := 11) C (tgt := 15) dX3_setForeground_11 (by decide) ?_
      refine zz_istore_n (pc := 15) C dX3_setForeground_15 (Nat.le_of_ble_eq_true rfl) ?_
      refine zz_aload_n (pc := 16) C dX3_setForeground_16 rfl ?_
      refine zz_aload_n (pc := 17) C dX3_setForeground_17 rfl ?_
      refine zz_iload_n (pc := 18) C dX3_setForeground_18 rfl ?_
      refine zz_callV (pc := 19) C (c_X3_is l D hR (x := x)) gX3_setForeground_X3_is rfl 1 (by decide +kernel) ⟨Nat.le_of_ble_eq_true rfl, Nat.le_of_ble_eq_true rfl⟩ hR.2.1 (ci := 3) rfl rfl rfl dX3_setForeground_19 rfl (Nat.le_of_ble_eq_true rfl) rfl ⟨Nat.le_of_ble_eq_true rfl, Nat.le_of_ble_eq_true rfl⟩ ?_
      rintro v G9 ⟨rfl, rfl⟩
      refine zz_if_ne (pc := 22) C (tgt := 29) dX3_setForeground_22 (by decide) (fun hc22 => ?_) (fun hc22 => ?_)
      · have hH : zHere σ x := zbp hc22
        have hx := hH.at
        refine zz_iload_n (pc := 29) C dX3_setForeground_29 rfl ?_
        refine zz_if_ne (pc := 30) C (tgt := 37) dX3_setForeground_30 (by decide) (fun hc30 => ?_) (fun hc30 => ?_)
        · refine zz_aload_n (pc := 37) C dX3_setForeground_37 rfl ?_
          refine zz_iload_n (pc := 38) C dX3_setForeground_38 rfl ?_
          refine zz_callV (pc := 39) C (c_xcannot l D hR hx) gX3_setForeground_X3_cannot rfl 1 (by decide +kernel) ⟨Nat.le_of_ble_eq_true rfl, Nat.le_of_ble_eq_true rfl⟩ hR.2.1 (ci := 3) rfl rfl rfl dX3_setForeground_39 rfl (Nat.le_of_ble_eq_true rfl) rfl ⟨Nat.le_of_ble_eq_true rfl, Nat.le_of_ble_eq_true rfl⟩ ?_
          rintro v G9 ⟨rfl, rfl⟩
          refine zz_if_ne (pc := 42) C (tgt := 72) dX3_setForeground_42 (by decide) (fun hc42 => ?_) (fun hc42 => ?_)
          · refine zz_iconst (pc := 72) C (v := 3) (by decide) dX3_setForeground_72 ?_
            refine zz_goto (pc := 73) C (tgt := 77) dX3_setForeground_73 (by decide) ?_
            first
              | exact zV.less (L' := [some (.ref y), some (.int x), some (.int g9), none, none]) ⟨rfl, rfl, rfl, trivial⟩ (k0 (zE3_0 (fun z => z hH) (fun z => z.elim (zg2 hc1) hc7) (fun z => z.elim (zbn hc42) (fun u => u.elim (fun t => t (Classical.not_not.mp hc55)) (fun t => t (zb_ne.mp hc69))))))
              | exact zV.less (L' := [some (.ref y), some (.int x), some (.int g9), none, none]) ⟨rfl, rfl, rfl, trivial⟩ (k1 3 (zE3_3 (fun z => z hH) (fun z => z.elim (zg2 hc1) hc7) (Or.inl (zb_ne.mp hc42))) (by decide))
              | exact zV.less (L' := [some (.ref y), some (.int x), some (.int g9), none, none]) ⟨rfl, rfl, rfl, trivial⟩ (k1 3 (zE3_3 (fun z => z hH) (fun z => z.elim (zg2 hc1) hc7) (Or.inr (Or.inl hc55))) (by decide))
              | exact zV.less (L' := [some (.ref y), some (.int x), some (.int g9), none, none]) ⟨rfl, rfl, rfl, trivial⟩ (k1 3 (zE3_3 (fun z => z hH) (fun z => z.elim (zg2 hc1) hc7) (Or.inr (Or.inr (zbn hc69)))) (by decide))
              | exact zV.less (L' := [some (.ref y), some (.int x), some (.int g9), none, none]) ⟨rfl, rfl, rfl, trivial⟩ (k1 2 (zE3_2 (fun z => z hH) (Or.inl (zg1 hc1))) (by decide))
              | exact zV.less (L' := [some (.ref y), some (.int x), some (.int g9), none, none]) ⟨rfl, rfl, rfl, trivial⟩ (k1 2 (zE3_2 (fun z => z hH) (Or.inr hc7)) (by decide))
              | exact zV.less (L' := [some (.ref y), some (.int x), some (.int g9), none, none]) ⟨rfl, rfl, rfl, trivial⟩ (k1 1 (zE3_1 (zbn hc22)) (by decide))
              | exact absurd rfl hc30
              | exact absurd hc30 (by decide)
          · refine zz_aload_n (pc := 45) C dX3_setForeground_45 rfl ?_
            refine zz_get (pc := 46) C in_X3_setForeground_X3 (ci := 3) rfl 3 (by decide) (fl_X3_setForeground_20) rfl dX3_setForeground_46 hR.2.1 rfl ?_
            refine zz_iload_n (pc := 49) C dX3_setForeground_49 rfl ?_
            refine zz_mld (pc := 50) C hR 3 (by decide) rfl dX3_setForeground_50 hx.1 (by show _ < 41; have := hx.2.2; omega) ?_
            refine zz_aload_n (pc := 51) C dX3_setForeground_51 rfl ?_
            refine zz_get (pc := 52) C in_X3_setForeground_X3 (ci := 3) rfl 21 (by decide) (fl_X3_setForeground_74) rfl dX3_setForeground_52 hR.2.1 rfl ?_
            refine zz_icmp_ne (pc := 55) C (tgt := 72) dX3_setForeground_55 (by decide) (fun hc55 => ?_) (fun hc55 => ?_)
            · refine zz_iconst (pc := 72) C (v := 3) (by decide) dX3_setForeground_72 ?_
              refine zz_goto (pc := 73) C (tgt := 77) dX3_setForeground_73 (by decide) ?_
              first
                | exact zV.less (L' := [some (.ref y), some (.int x), some (.int g9), none, none]) ⟨rfl, rfl, rfl, trivial⟩ (k0 (zE3_0 (fun z => z hH) (fun z => z.elim (zg2 hc1) hc7) (fun z => z.elim (zbn hc42) (fun u => u.elim (fun t => t (Classical.not_not.mp hc55)) (fun t => t (zb_ne.mp hc69))))))
                | exact zV.less (L' := [some (.ref y), some (.int x), some (.int g9), none, none]) ⟨rfl, rfl, rfl, trivial⟩ (k1 3 (zE3_3 (fun z => z hH) (fun z => z.elim (zg2 hc1) hc7) (Or.inl (zb_ne.mp hc42))) (by decide))
                | exact zV.less (L' := [some (.ref y), some (.int x), some (.int g9), none, none]) ⟨rfl, rfl, rfl, trivial⟩ (k1 3 (zE3_3 (fun z => z hH) (fun z => z.elim (zg2 hc1) hc7) (Or.inr (Or.inl hc55))) (by decide))
                | exact zV.less (L' := [some (.ref y), some (.int x), some (.int g9), none, none]) ⟨rfl, rfl, rfl, trivial⟩ (k1 3 (zE3_3 (fun z => z hH) (fun z => z.elim (zg2 hc1) hc7) (Or.inr (Or.inr (zbn hc69)))) (by decide))
                | exact zV.less (L' := [some (.ref y), some (.int x), some (.int g9), none, none]) ⟨rfl, rfl, rfl, trivial⟩ (k1 2 (zE3_2 (fun z => z hH) (Or.inl (zg1 hc1))) (by decide))
                | exact zV.less (L' := [some (.ref y), some (.int x), some (.int g9), none, none]) ⟨rfl, rfl, rfl, trivial⟩ (k1 2 (zE3_2 (fun z => z hH) (Or.inr hc7)) (by decide))
                | exact zV.less (L' := [some (.ref y), some (.int x), some (.int g9), none, none]) ⟨rfl, rfl, rfl, trivial⟩ (k1 1 (zE3_1 (zbn hc22)) (by decide))
                | exact absurd rfl hc30
                | exact absurd hc30 (by decide)
            · refine zz_aload_n (pc := 58) C dX3_setForeground_58 rfl ?_
              refine zz_iload_n (pc := 59) C dX3_setForeground_59 rfl ?_
              refine zz_aload_n (pc := 60) C dX3_setForeground_60 rfl ?_
              refine zz_get (pc := 61) C in_X3_setForeground_X3 (ci := 3) rfl 3 (by decide) (fl_X3_setForeground_20) rfl dX3_setForeground_61 hR.2.1 rfl ?_
              refine zz_iload_n (pc := 64) C dX3_setForeground_64 rfl ?_
              refine zz_mld (pc := 65) C hR 3 (by decide) rfl dX3_setForeground_65 hx.1 (by show _ < 41; have := hx.2.2; omega) ?_
              refine zz_callV (pc := 66) C (c_X3_isIn l D hR (g9 := g9) (s9 := zMix σ t9 3 (pn x)) h00) gX3_setForeground_X3_isIn rfl 2 (by decide +kernel) ⟨Nat.le_of_ble_eq_true rfl, Nat.le_of_ble_eq_true rfl⟩ hR.2.1 (ci := 3) rfl rfl rfl dX3_setForeground_66 rfl (Nat.le_of_ble_eq_true rfl) rfl ⟨Nat.le_of_ble_eq_true rfl, Nat.le_of_ble_eq_true rfl⟩ ?_
              rintro v G9 ⟨rfl, rfl⟩
              refine zz_if_ne (pc := 69) C (tgt := 76) dX3_setForeground_69 (by decide) (fun hc69 => ?_) (fun hc69 => ?_)
              · refine zz_iconst (pc := 76) C (v := 0) (by decide) dX3_setForeground_76 ?_
                first
                  | exact zV.less (L' := [some (.ref y), some (.int x), some (.int g9), none, none]) ⟨rfl, rfl, rfl, trivial⟩ (k0 (zE3_0 (fun z => z hH) (fun z => z.elim (zg2 hc1) hc7) (fun z => z.elim (zbn hc42) (fun u => u.elim (fun t => t (Classical.not_not.mp hc55)) (fun t => t (zb_ne.mp hc69))))))
                  | exact zV.less (L' := [some (.ref y), some (.int x), some (.int g9), none, none]) ⟨rfl, rfl, rfl, trivial⟩ (k1 3 (zE3_3 (fun z => z hH) (fun z => z.elim (zg2 hc1) hc7) (Or.inl (zb_ne.mp hc42))) (by decide))
                  | exact zV.less (L' := [some (.ref y), some (.int x), some (.int g9), none, none]) ⟨rfl, rfl, rfl, trivial⟩ (k1 3 (zE3_3 (fun z => z hH) (fun z => z.elim (zg2 hc1) hc7) (Or.inr (Or.inl hc55))) (by decide))
                  | exact zV.less (L' := [some (.ref y), some (.int x), some (.int g9), none, none]) ⟨rfl, rfl, rfl, trivial⟩ (k1 3 (zE3_3 (fun z => z hH) (fun z => z.elim (zg2 hc1) hc7) (Or.inr (Or.inr (zbn hc69)))) (by decide))
                  | exact zV.less (L' := [some (.ref y), some (.int x), some (.int g9), none, none]) ⟨rfl, rfl, rfl, trivial⟩ (k1 2 (zE3_2 (fun z => z hH) (Or.inl (zg1 hc1))) (by decide))
                  | exact zV.less (L' := [some (.ref y), some (.int x), some (.int g9), none, none]) ⟨rfl, rfl, rfl, trivial⟩ (k1 2 (zE3_2 (fun z => z hH) (Or.inr hc7)) (by decide))
                  | exact zV.less (L' := [some (.ref y), some (.int x), some (.int g9), none, none]) ⟨rfl, rfl, rfl, trivial⟩ (k1 1 (zE3_1 (zbn hc22)) (by decide))
                  | exact absurd rfl hc30
                  | exact absurd hc30 (by decide)
              · refine zz_iconst (pc := 72) C (v := 3) (by decide) dX3_setForeground_72 ?_
                refine zz_goto (pc := 73) C (tgt := 77) dX3_setForeground_73 (by decide) ?_
                first
                  | exact zV.less (L' := [some (.ref y), some (.int x), some (.int g9), none, none]) ⟨rfl, rfl, rfl, trivial⟩ (k0 (zE3_0 (fun z => z hH) (fun z => z.elim (zg2 hc1) hc7) (fun z => z.elim (zbn hc42) (fun u => u.elim (fun t => t (Classical.not_not.mp hc55)) (fun t => t (zb_ne.mp hc69))))))
                  | exact zV.less (L' := [some (.ref y), some (.int x), some (.int g9), none, none]) ⟨rfl, rfl, rfl, trivial⟩ (k1 3 (zE3_3 (fun z => z hH) (fun z => z.elim (zg2 hc1) hc7) (Or.inl (zb_ne.mp hc42))) (by decide))
                  | exact zV.less (L' := [some (.ref y), some (.int x), some (.int g9), none, none]) ⟨rfl, rfl, rfl, trivial⟩ (k1 3 (zE3_3 (fun z => z hH) (fun z => z.elim (zg2 hc1) hc7) (Or.inr (Or.inl hc55))) (by decide))
                  | exact zV.less (L' := [some (.ref y), some (.int x), some (.int g9), none, none]) ⟨rfl, rfl, rfl, trivial⟩ (k1 3 (zE3_3 (fun z => z hH) (fun z => z.elim (zg2 hc1) hc7) (Or.inr (Or.inr (zbn hc69)))) (by decide))
                  | exact zV.less (L' := [some (.ref y), some (.int x), some (.int g9), none, none]) ⟨rfl, rfl, rfl, trivial⟩ (k1 2 (zE3_2 (fun z => z hH) (Or.inl (zg1 hc1))) (by decide))
                  | exact zV.less (L' := [some (.ref y), some (.int x), some (.int g9), none, none]) ⟨rfl, rfl, rfl, trivial⟩ (k1 2 (zE3_2 (fun z => z hH) (Or.inr hc7)) (by decide))
                  | exact zV.less (L' := [some (.ref y), some (.int x), some (.int g9), none, none]) ⟨rfl, rfl, rfl, trivial⟩ (k1 1 (zE3_1 (zbn hc22)) (by decide))
                  | exact absurd rfl hc30
                  | exact absurd hc30 (by decide)
        · refine zz_iconst (pc := 33) C (v := 2) (by decide) dX3_setForeground_33 ?_
          refine zz_goto (pc := 34) C (tgt := 77) dX3_setForeground_34 (by decide) ?_
          first
            | exact zV.less (L' := [some (.ref y), some (.int x), some (.int g9), none, none]) ⟨rfl, rfl, rfl, trivial⟩ (k0 (zE3_0 (fun z => z hH) (fun z => z.elim (zg2 hc1) hc7) (fun z => z.elim (zbn hc42) (fun u => u.elim (fun t => t (Classical.not_not.mp hc55)) (fun t => t (zb_ne.mp hc69))))))
            | exact zV.less (L' := [some (.ref y), some (.int x), some (.int g9), none, none]) ⟨rfl, rfl, rfl, trivial⟩ (k1 3 (zE3_3 (fun z => z hH) (fun z => z.elim (zg2 hc1) hc7) (Or.inl (zb_ne.mp hc42))) (by decide))
            | exact zV.less (L' := [some (.ref y), some (.int x), some (.int g9), none, none]) ⟨rfl, rfl, rfl, trivial⟩ (k1 3 (zE3_3 (fun z => z hH) (fun z => z.elim (zg2 hc1) hc7) (Or.inr (Or.inl hc55))) (by decide))
            | exact zV.less (L' := [some (.ref y), some (.int x), some (.int g9), none, none]) ⟨rfl, rfl, rfl, trivial⟩ (k1 3 (zE3_3 (fun z => z hH) (fun z => z.elim (zg2 hc1) hc7) (Or.inr (Or.inr (zbn hc69)))) (by decide))
            | exact zV.less (L' := [some (.ref y), some (.int x), some (.int g9), none, none]) ⟨rfl, rfl, rfl, trivial⟩ (k1 2 (zE3_2 (fun z => z hH) (Or.inl (zg1 hc1))) (by decide))
            | exact zV.less (L' := [some (.ref y), some (.int x), some (.int g9), none, none]) ⟨rfl, rfl, rfl, trivial⟩ (k1 2 (zE3_2 (fun z => z hH) (Or.inr hc7)) (by decide))
            | exact zV.less (L' := [some (.ref y), some (.int x), some (.int g9), none, none]) ⟨rfl, rfl, rfl, trivial⟩ (k1 1 (zE3_1 (zbn hc22)) (by decide))
            | exact absurd rfl hc30
            | exact absurd hc30 (by decide)
      · refine zz_iconst (pc := 25) C (v := 1) (by decide) dX3_setForeground_25 ?_
        refine zz_goto (pc := 26) C (tgt := 77) dX3_setForeground_26 (by decide) ?_
        first
          | exact zV.less (L' := [some (.ref y), some (.int x), some (.int g9), none, none]) ⟨rfl, rfl, rfl, trivial⟩ (k0 (zE3_0 (fun z => z hH) (fun z => z.elim (zg2 hc1) hc7) (fun z => z.elim (zbn hc42) (fun u => u.elim (fun t => t (Classical.not_not.mp hc55)) (fun t => t (zb_ne.mp hc69))))))
          | exact zV.less (L' := [some (.ref y), some (.int x), some (.int g9), none, none]) ⟨rfl, rfl, rfl, trivial⟩ (k1 3 (zE3_3 (fun z => z hH) (fun z => z.elim (zg2 hc1) hc7) (Or.inl (zb_ne.mp hc42))) (by decide))
          | exact zV.less (L' := [some (.ref y), some (.int x), some (.int g9), none, none]) ⟨rfl, rfl, rfl, trivial⟩ (k1 3 (zE3_3 (fun z => z hH) (fun z => z.elim (zg2 hc1) hc7) (Or.inr (Or.inl hc55))) (by decide))
          | exact zV.less (L' := [some (.ref y), some (.int x), some (.int g9), none, none]) ⟨rfl, rfl, rfl, trivial⟩ (k1 3 (zE3_3 (fun z => z hH) (fun z => z.elim (zg2 hc1) hc7) (Or.inr (Or.inr (zbn hc69)))) (by decide))
          | exact zV.less (L' := [some (.ref y), some (.int x), some (.int g9), none, none]) ⟨rfl, rfl, rfl, trivial⟩ (k1 2 (zE3_2 (fun z => z hH) (Or.inl (zg1 hc1))) (by decide))
          | exact zV.less (L' := [some (.ref y), some (.int x), some (.int g9), none, none]) ⟨rfl, rfl, rfl, trivial⟩ (k1 2 (zE3_2 (fun z => z hH) (Or.inr hc7)) (by decide))
          | exact zV.less (L' := [some (.ref y), some (.int x), some (.int g9), none, none]) ⟨rfl, rfl, rfl, trivial⟩ (k1 1 (zE3_1 (zbn hc22)) (by decide))
          | exact absurd rfl hc30
          | exact absurd hc30 (by decide)
theorem fl_X3_isPossible_13 : Cond.fieldLink RX3 13 "SignalpostModel" "parent" "[I" ∈ wsX3_isPossible := by decide +kernel
theorem fl_X3_isPossible_23 : Cond.fieldLink RX3 23 "SignalpostModel" "isZombie" "[Z" ∈ wsX3_isPossible := by decide +kernel
theorem fl_X3_isPossible_20 : Cond.fieldLink RX3 20 "SignalpostModel" "session" "[I" ∈ wsX3_isPossible := by decide +kernel
theorem in_X3_isPossible_X3 : ∀ w ∈ u_ws RX3 TX3 29, w ∈ wsX3_isPossible := by decide +kernel
set_option maxHeartbeats 4000000 in
set_option maxRecDepth 100000 in
theorem c_X3_isPossible (l : Launch) (D : va_G) {B G : zG} {y : Nat} {ma : Nat → Nat} {r : zS} {x t g9 : Int32} (hR : zModR B y ma r G) (h00 : r 0 0 = 0) (hx : x = nI (pn x) ∧ 1 ≤ pn x ∧ pn x < 41) (ht : t = nI (pn t) ∧ 1 ≤ pn t ∧ pn t < 41) : zMet D l yX3_isPossible wsX3_isPossible ({ frames := 2, cells := 0, slots := 0, locals := 46 } : Room) [.ref y, .int x, .int t, .int g9] G (fun v G9 => v = some (.int (zb (zPoss r (pn x) (pn t) g9))) ∧ G9 = G) := by
  refine zMet_of (cc := cX3_isPossible) (maxL := 6) (ret := (some .boolean)) (by decide) rfl (Nat.le_of_ble_eq_true rfl) ?_
  intro p e s m args below meth c C hmn
  have kN : ¬ zPoss r (pn x) (pn t) g9 → zV p l e ({ frames := 2, cells := 0, slots := 0, locals := 46 } : Room) s m args below meth c D (zA G s.heap.size) 0 0 (zZ below D G (fun v G9 => v = some (.int (zb (zPoss r (pn x) (pn t) g9))) ∧ G9 = G) args s ({ frames := 2, cells := 0, slots := 0, locals := 46 } : Room)) G 68 [some (.ref y), some (.int x), some (.int t), some (.int g9), none, some (.int 0)] [] := by
    intro hno
    refine zz_iload (pc := 68) C dX3_isPossible_68 rfl ?_
    refine zz_if_eq (pc := 70) C (tgt := 96) dX3_isPossible_70 (by decide) (fun hc70 => ?_) (fun hc70 => ?_)
    · refine zz_iconst (pc := 96) C (v := 0) (by decide) dX3_isPossible_96 ?_
      exact zz_ireturn (pc := 97) C dX3_isPossible_97 (by decide) (Nat.le_refl _) (Nat.le_refl _) ⟨by first | exact zvt ⟨hA, h4, h3, hs, Or.inl (hc75.trans ht.1)⟩ | exact zvt ⟨hA, h4, h3, hs, Or.inr (zbp hc89)⟩ | exact zvf (fun z => z.2.2.2.2.elim (fun u => hc75 (u.trans ht.1.symm)) (zb_eq.mp hc89)) | exact zvf hno, rfl⟩
    · exact absurd rfl hc70
  have k1 : (pn t = pn x ∨ r 1 (pn t) = nI (pn x)) → zV p l e ({ frames := 2, cells := 0, slots := 0, locals := 46 } : Room) s m args below meth c D (zA G s.heap.size) 0 0 (zZ below D G (fun v G9 => v = some (.int (zb (zPoss r (pn x) (pn t) g9))) ∧ G9 = G) args s ({ frames := 2, cells := 0, slots := 0, locals := 46 } : Room)) G 22 [some (.ref y), some (.int x), some (.int t), some (.int g9), some (.int 1), none] [] := by
    intro hA
    have kY : r 4 (pn t) = 0 → r 3 (pn t) ≠ nI (pn t) → r 3 (pn t) = r 3 (pn x) → zV p l e ({ frames := 2, cells := 0, slots := 0, locals := 46 } : Room) s m args below meth c D (zA G s.heap.size) 0 0 (zZ below D G (fun v G9 => v = some (.int (zb (zPoss r (pn x) (pn t) g9))) ∧ G9 = G) args s ({ frames := 2, cells := 0, slots := 0, locals := 46 } : Room)) G 68 [some (.ref y), some (.int x), some (.int t), some (.int g9), none, some (.int 1)] [] := by
      intro h4 h3 hs
      refine zz_iload (pc := 68) C dX3_isPossible_68 rfl ?_
      refine zz_if_eq (pc := 70) C (tgt := 96) dX3_isPossible_70 (by decide) (fun hc70 => ?_) (fun hc70 => ?_)
      · exact absurd hc70 (by decide)
      · refine zz_iload_n (pc := 73) C dX3_isPossible_73 rfl ?_
        refine zz_iload_n (pc := 74) C dX3_isPossible_74 rfl ?_
        refine zz_icmp_eq (pc := 75) C (tgt := 92) dX3_isPossible_75 (by decide) (fun hc75 => ?_) (fun hc75 => ?_)
        · refine zz_iconst (pc := 92) C (v := 1) (by decide) dX3_isPossible_92 ?_
          refine zz_goto (pc := 93) C (tgt := 97) dX3_isPossible_93 (by decide) ?_
          exact zz_ireturn (pc := 97) C dX3_isPossible_97 (by decide) (Nat.le_refl _) (Nat.le_refl _) ⟨by first | exact zvt ⟨hA, h4, h3, hs, Or.inl (hc75.trans ht.1)⟩ | exact zvt ⟨hA, h4, h3, hs, Or.inr (zbp hc89)⟩ | exact zvf (fun z => z.2.2.2.2.elim (fun u => hc75 (u.trans ht.1.symm)) (zb_eq.mp hc89)) | exact zvf hno, rfl⟩
        · refine zz_aload_n (pc := 78) C dX3_isPossible_78 rfl ?_
          refine zz_iload_n (pc := 79) C dX3_isPossible_79 rfl ?_
          refine zz_aload_n (pc := 80) C dX3_isPossible_80 rfl ?_
          refine zz_get (pc := 81) C in_X3_isPossible_X3 (ci := 3) rfl 3 (by decide) (fl_X3_isPossible_20) rfl dX3_isPossible_81 hR.2.1 rfl ?_
          refine zz_iload_n (pc := 84) C dX3_isPossible_84 rfl ?_
          refine zz_mld (pc := 85) C hR 3 (by decide) rfl dX3_isPossible_85 hx.1 (by show _ < 41; have := hx.2.2; omega) ?_
          refine zz_callV (pc := 86) C (c_X3_isIn l D hR (g9 := g9) (s9 := r 3 (pn x)) h00) gX3_isPossible_X3_isIn rfl 2 (by decide +kernel) ⟨Nat.le_of_ble_eq_true rfl, Nat.le_of_ble_eq_true rfl⟩ hR.2.1 (ci := 3) rfl rfl rfl dX3_isPossible_86 rfl (Nat.le_of_ble_eq_true rfl) rfl ⟨Nat.le_of_ble_eq_true rfl, Nat.le_of_ble_eq_true rfl⟩ ?_
          rintro v G9 ⟨rfl, rfl⟩
          refine zz_if_eq (pc := 89) C (tgt := 96) dX3_isPossible_89 (by decide) (fun hc89 => ?_) (fun hc89 => ?_)
          · refine zz_iconst (pc := 96) C (v := 0) (by decide) dX3_isPossible_96 ?_
            exact zz_ireturn (pc := 97) C dX3_isPossible_97 (by decide) (Nat.le_refl _) (Nat.le_refl _) ⟨by first | exact zvt ⟨hA, h4, h3, hs, Or.inl (hc75.trans ht.1)⟩ | exact zvt ⟨hA, h4, h3, hs, Or.inr (zbp hc89)⟩ | exact zvf (fun z => z.2.2.2.2.elim (fun u => hc75 (u.trans ht.1.symm)) (zb_eq.mp hc89)) | exact zvf hno, rfl⟩
          · refine zz_iconst (pc := 92) C (v := 1) (by decide) dX3_isPossible_92 ?_
            refine zz_goto (pc := 93) C (tgt := 97) dX3_isPossible_93 (by decide) ?_
            exact zz_ireturn (pc := 97) C dX3_isPossible_97 (by decide) (Nat.le_refl _) (Nat.le_refl _) ⟨by first | exact zvt ⟨hA, h4, h3, hs, Or.inl (hc75.trans ht.1)⟩ | exact zvt ⟨hA, h4, h3, hs, Or.inr (zbp hc89)⟩ | exact zvf (fun z => z.2.2.2.2.elim (fun u => hc75 (u.trans ht.1.symm)) (zb_eq.mp hc89)) | exact zvf hno, rfl⟩
    refine zz_iload (pc := 22) C dX3_isPossible_22 rfl ?_
    refine zz_if_eq (pc := 24) C (tgt := 65) dX3_isPossible_24 (by decide) (fun hc24 => ?_) (fun hc24 => ?_)
    · exact absurd hc24 (by decide)
    · refine zz_aload_n (pc := 27) C dX3_isPossible_27 rfl ?_
      refine zz_get (pc := 28) C in_X3_isPossible_X3 (ci := 3) rfl 4 (by decide) (fl_X3_isPossible_23) rfl dX3_isPossible_28 hR.2.1 rfl ?_
      refine zz_iload_n (pc := 31) C dX3_isPossible_31 rfl ?_
      refine zz_mldz (pc := 32) C hR 4 (by decide) rfl dX3_isPossible_32 ht.1 (by show _ < 41; have := ht.2.2; omega) ?_
      refine zz_if_ne (pc := 33) C (tgt := 65) dX3_isPossible_33 (by decide) (fun hc33 => ?_) (fun hc33 => ?_)
      · refine zz_iconst (pc := 65) C (v := 0) (by decide) dX3_isPossible_65 ?_
        refine zz_istore (pc := 66) C dX3_isPossible_66 (Nat.le_of_ble_eq_true rfl) ?_
        first
          | exact zV.less (L' := [some (.ref y), some (.int x), some (.int t), some (.int g9), none, some (.int 1)]) ⟨rfl, rfl, rfl, rfl, rfl, trivial⟩ (kY (Classical.not_not.mp hc33) (fun z => hc43 (z.trans ht.1.symm)) (Classical.not_not.mp hc58))
          | exact zV.less (L' := [some (.ref y), some (.int x), some (.int t), some (.int g9), none, some (.int 0)]) ⟨rfl, rfl, rfl, rfl, rfl, trivial⟩ (kN (fun z => hc33 z.2.1))
          | exact zV.less (L' := [some (.ref y), some (.int x), some (.int t), some (.int g9), none, some (.int 0)]) ⟨rfl, rfl, rfl, rfl, rfl, trivial⟩ (kN (fun z => z.2.2.1 (hc43.trans ht.1)))
          | exact zV.less (L' := [some (.ref y), some (.int x), some (.int t), some (.int g9), none, some (.int 0)]) ⟨rfl, rfl, rfl, rfl, rfl, trivial⟩ (kN (fun z => hc58 z.2.2.2.1))
      · refine zz_aload_n (pc := 36) C dX3_isPossible_36 rfl ?_
        refine zz_get (pc := 37) C in_X3_isPossible_X3 (ci := 3) rfl 3 (by decide) (fl_X3_isPossible_20) rfl dX3_isPossible_37 hR.2.1 rfl ?_
        refine zz_iload_n (pc := 40) C dX3_isPossible_40 rfl ?_
        refine zz_mld (pc := 41) C hR 3 (by decide) rfl dX3_isPossible_41 ht.1 (by show _ < 41; have := ht.2.2; omega) ?_
        refine zz_iload_n (pc := 42) C dX3_isPossible_42 rfl ?_
        refine zz_icmp_eq (pc := 43) C (tgt := 65) dX3_isPossible_43 (by decide) (fun hc43 => ?_) (fun hc43 => ?_)
        · refine zz_iconst (pc := 65) C (v := 0) (by decide) dX3_isPossible_65 ?_
          refine zz_istore (pc := 66) C dX3_isPossible_66 (Nat.le_of_ble_eq_true rfl) ?_
          first
            | exact zV.less (L' := [some (.ref y), some (.int x), some (.int t), some (.int g9), none, some (.int 1)]) ⟨rfl, rfl, rfl, rfl, rfl, trivial⟩ (kY (Classical.not_not.mp hc33) (fun z => hc43 (z.trans ht.1.symm)) (Classical.not_not.mp hc58))
            | exact zV.less (L' := [some (.ref y), some (.int x), some (.int t), some (.int g9), none, some (.int 0)]) ⟨rfl, rfl, rfl, rfl, rfl, trivial⟩ (kN (fun z => hc33 z.2.1))
            | exact zV.less (L' := [some (.ref y), some (.int x), some (.int t), some (.int g9), none, some (.int 0)]) ⟨rfl, rfl, rfl, rfl, rfl, trivial⟩ (kN (fun z => z.2.2.1 (hc43.trans ht.1)))
            | exact zV.less (L' := [some (.ref y), some (.int x), some (.int t), some (.int g9), none, some (.int 0)]) ⟨rfl, rfl, rfl, rfl, rfl, trivial⟩ (kN (fun z => hc58 z.2.2.2.1))
        · refine zz_aload_n (pc := 46) C dX3_isPossible_46 rfl ?_
          refine zz_get (pc := 47) C in_X3_isPossible_X3 (ci := 3) rfl 3 (by decide) (fl_X3_isPossible_20) rfl dX3_isPossible_47 hR.2.1 rfl ?_
          refine zz_iload_n (pc := 50) C dX3_isPossible_50 rfl ?_
          refine zz_mld (pc := 51) C hR 3 (by decide) rfl dX3_isPossible_51 ht.1 (by show _ < 41; have := ht.2.2; omega) ?_
          refine zz_aload_n (pc := 52) C dX3_isPossible_52 rfl ?_
          refine zz_get (pc := 53) C in_X3_isPossible_X3 (ci := 3) rfl 3 (by decide) (fl_X3_isPossible_20) rfl dX3_isPossible_53 hR.2.1 rfl ?_
          refine zz_iload_n (pc := 56) C dX3_isPossible_56 rfl ?_
          refine zz_mld (pc := 57) C hR 3 (by decide) rfl dX3_isPossible_57 hx.1 (by show _ < 41; have := hx.2.2; omega) ?_
          refine zz_icmp_ne (pc := 58) C (tgt := 65) dX3_isPossible_58 (by decide) (fun hc58 => ?_) (fun hc58 => ?_)
          · refine zz_iconst (pc := 65) C (v := 0) (by decide) dX3_isPossible_65 ?_
            refine zz_istore (pc := 66) C dX3_isPossible_66 (Nat.le_of_ble_eq_true rfl) ?_
            first
              | exact zV.less (L' := [some (.ref y), some (.int x), some (.int t), some (.int g9), none, some (.int 1)]) ⟨rfl, rfl, rfl, rfl, rfl, trivial⟩ (kY (Classical.not_not.mp hc33) (fun z => hc43 (z.trans ht.1.symm)) (Classical.not_not.mp hc58))
              | exact zV.less (L' := [some (.ref y), some (.int x), some (.int t), some (.int g9), none, some (.int 0)]) ⟨rfl, rfl, rfl, rfl, rfl, trivial⟩ (kN (fun z => hc33 z.2.1))
              | exact zV.less (L' := [some (.ref y), some (.int x), some (.int t), some (.int g9), none, some (.int 0)]) ⟨rfl, rfl, rfl, rfl, rfl, trivial⟩ (kN (fun z => z.2.2.1 (hc43.trans ht.1)))
              | exact zV.less (L' := [some (.ref y), some (.int x), some (.int t), some (.int g9), none, some (.int 0)]) ⟨rfl, rfl, rfl, rfl, rfl, trivial⟩ (kN (fun z => hc58 z.2.2.2.1))
          · refine zz_iconst (pc := 61) C (v := 1) (by decide) dX3_isPossible_61 ?_
            refine zz_goto (pc := 62) C (tgt := 66) dX3_isPossible_62 (by decide) ?_
            refine zz_istore (pc := 66) C dX3_isPossible_66 (Nat.le_of_ble_eq_true rfl) ?_
            first
              | exact zV.less (L' := [some (.ref y), some (.int x), some (.int t), some (.int g9), none, some (.int 1)]) ⟨rfl, rfl, rfl, rfl, rfl, trivial⟩ (kY (Classical.not_not.mp hc33) (fun z => hc43 (z.trans ht.1.symm)) (Classical.not_not.mp hc58))
              | exact zV.less (L' := [some (.ref y), some (.int x), some (.int t), some (.int g9), none, some (.int 0)]) ⟨rfl, rfl, rfl, rfl, rfl, trivial⟩ (kN (fun z => hc33 z.2.1))
              | exact zV.less (L' := [some (.ref y), some (.int x), some (.int t), some (.int g9), none, some (.int 0)]) ⟨rfl, rfl, rfl, rfl, rfl, trivial⟩ (kN (fun z => z.2.2.1 (hc43.trans ht.1)))
              | exact zV.less (L' := [some (.ref y), some (.int x), some (.int t), some (.int g9), none, some (.int 0)]) ⟨rfl, rfl, rfl, rfl, rfl, trivial⟩ (kN (fun z => hc58 z.2.2.2.1))
  have k2 : ¬ (pn t = pn x ∨ r 1 (pn t) = nI (pn x)) → zV p l e ({ frames := 2, cells := 0, slots := 0, locals := 46 } : Room) s m args below meth c D (zA G s.heap.size) 0 0 (zZ below D G (fun v G9 => v = some (.int (zb (zPoss r (pn x) (pn t) g9))) ∧ G9 = G) args s ({ frames := 2, cells := 0, slots := 0, locals := 46 } : Room)) G 22 [some (.ref y), some (.int x), some (.int t), some (.int g9), some (.int 0), none] [] := by
    intro hA
    have hno : ¬ zPoss r (pn x) (pn t) g9 := fun z => hA z.1
    refine zz_iload (pc := 22) C dX3_isPossible_22 rfl ?_
    refine zz_if_eq (pc := 24) C (tgt := 65) dX3_isPossible_24 (by decide) (fun hc24 => ?_) (fun hc24 => ?_)
    · refine zz_iconst (pc := 65) C (v := 0) (by decide) dX3_isPossible_65 ?_
      refine zz_istore (pc := 66) C dX3_isPossible_66 (Nat.le_of_ble_eq_true rfl) ?_
      exact zV.less (L' := [some (.ref y), some (.int x), some (.int t), some (.int g9), none, some (.int 0)]) ⟨rfl, rfl, rfl, rfl, rfl, trivial⟩ (kN hno)
    · exact absurd rfl hc24
  refine zz_iload_n (pc := 0) C dX3_isPossible_0 rfl ?_
  refine zz_iload_n (pc := 1) C dX3_isPossible_1 rfl ?_
  refine zz_icmp_eq (pc := 2) C (tgt := 15) dX3_isPossible_2 (by decide) (fun hc2 => ?_) (fun hc2 => ?_)
  · refine zz_iconst (pc := 15) C (v := 1) (by decide) dX3_isPossible_15 ?_
    refine zz_goto (pc := 16) C (tgt := 20) dX3_isPossible_16 (by decide) ?_
    refine zz_istore (pc := 20) C dX3_isPossible_20 (Nat.le_of_ble_eq_true rfl) ?_
    first
      | exact k1 (Or.inl (by rw [hc2]))
      | exact k1 (Or.inr ((Classical.not_not.mp hc12).trans hx.1))
      | exact k2 (fun z => z.elim (fun u => hc2 (by rw [ht.1, hx.1, u])) (fun u => hc12 (u.trans hx.1.symm)))
  · refine zz_aload_n (pc := 5) C dX3_isPossible_5 rfl ?_
    refine zz_get (pc := 6) C in_X3_isPossible_X3 (ci := 3) rfl 1 (by decide) (fl_X3_isPossible_13) rfl dX3_isPossible_6 hR.2.1 rfl ?_
    refine zz_iload_n (pc := 9) C dX3_isPossible_9 rfl ?_
    refine zz_mld (pc := 10) C hR 1 (by decide) rfl dX3_isPossible_10 ht.1 (by show _ < 41; have := ht.2.2; omega) ?_
    refine zz_iload_n (pc := 11) C dX3_isPossible_11 rfl ?_
    refine zz_icmp_ne (pc := 12) C (tgt := 19) dX3_isPossible_12 (by decide) (fun hc12 => ?_) (fun hc12 => ?_)
    · refine zz_iconst (pc := 19) C (v := 0) (by decide) dX3_isPossible_19 ?_
      refine zz_istore (pc := 20) C dX3_isPossible_20 (Nat.le_of_ble_eq_true rfl) ?_
      first
        | exact k1 (Or.inl (by rw [hc2]))
        | exact k1 (Or.inr ((Classical.not_not.mp hc12).trans hx.1))
        | exact k2 (fun z => z.elim (fun u => hc2 (by rw [ht.1, hx.1, u])) (fun u => hc12 (u.trans hx.1.symm)))
    · refine zz_iconst (pc := 15) C (v := 1) (by decide) dX3_isPossible_15 ?_
      refine zz_goto (pc := 16) C (tgt := 20) dX3_isPossible_16 (by decide) ?_
      refine zz_istore (pc := 20) C dX3_isPossible_20 (Nat.le_of_ble_eq_true rfl) ?_
      first
        | exact k1 (Or.inl (by rw [hc2]))
        | exact k1 (Or.inr ((Classical.not_not.mp hc12).trans hx.1))
        | exact k2 (fun z => z.elim (fun u => hc2 (by rw [ht.1, hx.1, u])) (fun u => hc12 (u.trans hx.1.symm)))
theorem fl_X3_setGroup_17 : Cond.fieldLink RX3 17 "SignalpostModel" "group" "[I" ∈ wsX3_setGroup := by decide +kernel
theorem in_X3_setGroup_X3 : ∀ w ∈ u_ws RX3 TX3 29, w ∈ wsX3_setGroup := by decide +kernel
set_option maxHeartbeats 4000000 in
set_option maxRecDepth 100000 in
theorem c_X3_setGroup (l : Launch) (D : va_G) {B G : zG} {y : Nat} {ma : Nat → Nat} {r : zS} {σ : zS} {x t g9 : Int32} (hR : zModR B y ma r G) (hag : zAg r σ) (hring : zRing r []) (h00 : σ 0 0 = 0) : zMet D l yX3_setGroup wsX3_setGroup ({ frames := 3, cells := 0, slots := 0, locals := 71 } : Room) [.ref y, .int x, .int t, .int g9] G (fun v G9 => v = some (.int (if zE3 (¬ zHere σ x ∨ ¬ zHere σ t) (g9 < 1 ∨ (40 : Int32) < g9) (zNot σ (pn x) ∨ ¬ zPoss σ (pn x) (pn t) g9) = 0 then σ 2 (pn t) else 0)) ∧ zMod B y ma (if zE3 (¬ zHere σ x ∨ ¬ zHere σ t) (g9 < 1 ∨ (40 : Int32) < g9) (zNot σ (pn x) ∨ ¬ zPoss σ (pn x) (pn t) g9) = 0 then zu σ 2 (pn t) g9 else σ) [] (zE3 (¬ zHere σ x ∨ ¬ zHere σ t) (g9 < 1 ∨ (40 : Int32) < g9) (zNot σ (pn x) ∨ ¬ zPoss σ (pn x) (pn t) g9)) G9) := by
  refine zMet_of (cc := cX3_setGroup) (maxL := 5) (ret := (some .int)) (by decide) rfl (Nat.le_of_ble_eq_true rfl) ?_
  intro p e s m args below meth c C hmn
  obtain ⟨t9, rfl⟩ : ∃ t9, r = zMix σ t9 := ⟨r, zMix_of hag⟩
  have k0 : zE3 (¬ zHere σ x ∨ ¬ zHere σ t) (g9 < 1 ∨ (40 : Int32) < g9) (zNot σ (pn x) ∨ ¬ zPoss σ (pn x) (pn t) g9) = 0 → zV p l e ({ frames := 3, cells := 0, slots := 0, locals := 71 } : Room) s m args below meth c D (zA G s.heap.size) 0 0 (zZ below D G (fun v G9 => v = some (.int (if zE3 (¬ zHere σ x ∨ ¬ zHere σ t) (g9 < 1 ∨ (40 : Int32) < g9) (zNot σ (pn x) ∨ ¬ zPoss σ (pn x) (pn t) g9) = 0 then σ 2 (pn t) else 0)) ∧ zMod B y ma (if zE3 (¬ zHere σ x ∨ ¬ zHere σ t) (g9 < 1 ∨ (40 : Int32) < g9) (zNot σ (pn x) ∨ ¬ zPoss σ (pn x) (pn t) g9) = 0 then zu σ 2 (pn t) g9 else σ) [] (zE3 (¬ zHere σ x ∨ ¬ zHere σ t) (g9 < 1 ∨ (40 : Int32) < g9) (zNot σ (pn x) ∨ ¬ zPoss σ (pn x) (pn t) g9)) G9) args s ({ frames := 3, cells := 0, slots := 0, locals := 71 } : Room)) G 59 [some (.ref y), some (.int x), some (.int t), some (.int g9), none] [.int 0, .ref y] := by
    intro hT
    have hI : zHere σ t := Classical.not_not.mp (fun z => (zE3_z hT).1 (Or.inr z))
    have ht := hI.at
    refine zz_callV (pc := 59) C (c_X3_fails l D hR (w := 0)) gX3_setGroup_X3_fails rfl 1 (by decide +kernel) ⟨Nat.le_of_ble_eq_true rfl, Nat.le_of_ble_eq_true rfl⟩ hR.2.1 (ci := 3) rfl rfl rfl dX3_setGroup_59 rfl (Nat.le_of_ble_eq_true rfl) rfl ⟨Nat.le_of_ble_eq_true rfl, Nat.le_of_ble_eq_true rfl⟩ ?_
    rintro v G9 ⟨rfl, hR⟩
    have hag : zAg (zu (zMix σ t9) 23 0 0) σ := zAg_off hag (by decide)
    have hring : zRing (zu (zMix σ t9) 23 0 0) [] := hring.ag rfl rfl rfl
    have h23 : (zu (zMix σ t9) 23 0 0) 23 0 = 0 := zu_self
    refine zz_if_eq (pc := 62) C (tgt := 67) dX3_setGroup_62 (by decide) (fun hc62 => ?_) (fun hc62 => ?_)
    · refine zz_aload_n (pc := 67) C dX3_setGroup_67 rfl ?_
      refine zz_get (pc := 68) C in_X3_setGroup_X3 (ci := 3) rfl 2 (by decide) (fl_X3_setGroup_17) rfl dX3_setGroup_68 hR.2.1 rfl ?_
      refine zz_iload_n (pc := 71) C dX3_setGroup_71 rfl ?_
      refine zz_mld (pc := 72) C hR 2 (by decide) rfl dX3_setGroup_72 ht.1 (by show _ < 41; have := ht.2.2; omega) ?_
      refine zz_istore (pc := 73) C dX3_setGroup_73 (Nat.le_of_ble_eq_true rfl) ?_
      refine zz_aload_n (pc := 75) C dX3_setGroup_75 rfl ?_
      refine zz_get (pc := 76) C in_X3_setGroup_X3 (ci := 3) rfl 2 (by decide) (fl_X3_setGroup_17) rfl dX3_setGroup_76 hR.2.1 rfl ?_
      refine zz_iload_n (pc := 79) C dX3_setGroup_79 rfl ?_
      refine zz_iload_n (pc := 80) C dX3_setGroup_80 rfl ?_
      refine zz_mst (pc := 81) C hR 2 (by decide) rfl dX3_setGroup_81 ht.1 (by show _ < 41; have := ht.2.2; omega) (fun G hR => ?_)
      refine zz_iload (pc := 82) C dX3_setGroup_82 rfl ?_
      exact zz_ireturn (pc := 84) C dX3_setGroup_84 rfl (Nat.le_refl _) (Nat.le_refl _) ⟨zvok hT (rfl), zMod.ok hT hR (zAg_zu hag) h23 (hring.ag rfl rfl rfl)⟩
    · exact (z01 hc62).elim
  have k1 : ∀ w9 : Int32, zE3 (¬ zHere σ x ∨ ¬ zHere σ t) (g9 < 1 ∨ (40 : Int32) < g9) (zNot σ (pn x) ∨ ¬ zPoss σ (pn x) (pn t) g9) = w9 → 0 < w9 → zV p l e ({ frames := 3, cells := 0, slots := 0, locals := 71 } : Room) s m args below meth c D (zA G s.heap.size) 0 0 (zZ below D G (fun v G9 => v = some (.int (if zE3 (¬ zHere σ x ∨ ¬ zHere σ t) (g9 < 1 ∨ (40 : Int32) < g9) (zNot σ (pn x) ∨ ¬ zPoss σ (pn x) (pn t) g9) = 0 then σ 2 (pn t) else 0)) ∧ zMod B y ma (if zE3 (¬ zHere σ x ∨ ¬ zHere σ t) (g9 < 1 ∨ (40 : Int32) < g9) (zNot σ (pn x) ∨ ¬ zPoss σ (pn x) (pn t) g9) = 0 then zu σ 2 (pn t) g9 else σ) [] (zE3 (¬ zHere σ x ∨ ¬ zHere σ t) (g9 < 1 ∨ (40 : Int32) < g9) (zNot σ (pn x) ∨ ¬ zPoss σ (pn x) (pn t) g9)) G9) args s ({ frames := 3, cells := 0, slots := 0, locals := 71 } : Room)) G 59 [some (.ref y), some (.int x), some (.int t), some (.int g9), none] [.int w9, .ref y] := by
    intro w9 hT hw9
    refine zz_callV (pc := 59) C (c_X3_fails l D hR (w := w9)) gX3_setGroup_X3_fails rfl 1 (by decide +kernel) ⟨Nat.le_of_ble_eq_true rfl, Nat.le_of_ble_eq_true rfl⟩ hR.2.1 (ci := 3) rfl rfl rfl dX3_setGroup_59 rfl (Nat.le_of_ble_eq_true rfl) rfl ⟨Nat.le_of_ble_eq_true rfl, Nat.le_of_ble_eq_true rfl⟩ ?_
    rintro v G9 ⟨rfl, hR⟩
    have hag : zAg (zu (zMix σ t9) 23 0 w9) σ := zAg_off hag (by decide)
    have hring : zRing (zu (zMix σ t9) 23 0 w9) [] := hring.ag rfl rfl rfl
    have h23 : (zu (zMix σ t9) 23 0 w9) 23 0 = w9 := zu_self
    refine zz_if_eq (pc := 62) C (tgt := 67) dX3_setGroup_62 (by decide) (fun hc62 => ?_) (fun hc62 => ?_)
    · exact (zw0 hc62 hw9).elim
    · refine zz_iconst (pc := 65) C (v := 0) (by decide) dX3_setGroup_65 ?_
      exact zz_ireturn (pc := 66) C dX3_setGroup_66 (by first | rfl | decide) (Nat.le_refl _) (Nat.le_refl _) ⟨zvno hT hw9, zMod.no hT hw9 hR hag h23 hring⟩
  refine zz_aload_n (pc := 0) C dX3_setGroup_0 rfl ?_
  refine zz_aload_n (pc := 1) C dX3_setGroup_1 rfl ?_
  refine zz_iload_n (pc := 2) C dX3_setGroup_2 rfl ?_
  refine zz_callV (pc := 3) C (c_X3_is l D hR (x := x)) gX3_setGroup_X3_is rfl 1 (by decide +kernel) ⟨Nat.le_of_ble_eq_true rfl, Nat.le_of_ble_eq_true rfl⟩ hR.2.1 (ci := 3) rfl rfl rfl dX3_setGroup_3 rfl (Nat.le_of_ble_eq_true rfl) rfl ⟨Nat.le_of_ble_eq_true rfl, Nat.le_of_ble_eq_true rfl⟩ ?_
  rintro v G9 ⟨rfl, rfl⟩
  refine zz_if_eq (pc := 6) C (tgt := 17) dX3_setGroup_6 (by decide) (fun hc6 => ?_) (fun hc6 => ?_)
  · refine zz_iconst (pc := 17) C (v := 1) (by decide) dX3_setGroup_17 ?_
    refine zz_goto (pc := 18) C (tgt := 59) dX3_setGroup_18 (by decide) ?_
    first
      | exact k0 (zE3_0 (fun z => z.elim (fun u => u hH) (fun u => u hI)) (fun z => z.elim hc23 (fun u => absurd u (Int32.not_lt.mpr hc29))) (fun z => z.elim (zbn hc41) (fun u => u (zb_ne.mp hc51))))
      | exact k1 3 (zE3_3 (fun z => z.elim (fun u => u hH) (fun u => u hI)) (fun z => z.elim hc23 (fun u => absurd u (Int32.not_lt.mpr hc29))) (Or.inl (zb_ne.mp hc41))) (by decide)
      | exact k1 3 (zE3_3 (fun z => z.elim (fun u => u hH) (fun u => u hI)) (fun z => z.elim hc23 (fun u => absurd u (Int32.not_lt.mpr hc29))) (Or.inr (zbn hc51))) (by decide)
      | exact k1 2 (zE3_2 (fun z => z.elim (fun u => u hH) (fun u => u hI)) (Or.inl hc23)) (by decide)
      | exact k1 2 (zE3_2 (fun z => z.elim (fun u => u hH) (fun u => u hI)) (Or.inr (Int32.not_le.mp hc29))) (by decide)
      | exact k1 1 (zE3_1 (Or.inl (zb_eq.mp hc6))) (by decide)
      | exact k1 1 (zE3_1 (Or.inr (zbn hc14))) (by decide)
  · refine zz_aload_n (pc := 9) C dX3_setGroup_9 rfl ?_
    refine zz_iload_n (pc := 10) C dX3_setGroup_10 rfl ?_
    refine zz_callV (pc := 11) C (c_X3_is l D hR (x := t)) gX3_setGroup_X3_is rfl 1 (by decide +kernel) ⟨Nat.le_of_ble_eq_true rfl, Nat.le_of_ble_eq_true rfl⟩ hR.2.1 (ci := 3) rfl rfl rfl dX3_setGroup_11 rfl (Nat.le_of_ble_eq_true rfl) rfl ⟨Nat.le_of_ble_eq_true rfl, Nat.le_of_ble_eq_true rfl⟩ ?_
    rintro v G9 ⟨rfl, rfl⟩
    refine zz_if_ne (pc := 14) C (tgt := 21) dX3_setGroup_14 (by decide) (fun hc14 => ?_) (fun hc14 => ?_)
    · have hH : zHere σ x := zbp hc6
      have hx := hH.at
      have hI : zHere σ t := zb_ne.mp hc14
      have ht := hI.at
      refine zz_iload_n (pc := 21) C dX3_setGroup_21 rfl ?_
      refine zz_iconst (pc := 22) C (v := 1) (by decide) dX3_setGroup_22 ?_
      refine zz_icmp_lt (pc := 23) C (tgt := 32) dX3_setGroup_23 (by decide) (fun hc23 => ?_) (fun hc23 => ?_)
      · refine zz_iconst (pc := 32) C (v := 2) (by decide) dX3_setGroup_32 ?_
        refine zz_goto (pc := 33) C (tgt := 59) dX3_setGroup_33 (by decide) ?_
        first
          | exact k0 (zE3_0 (fun z => z.elim (fun u => u hH) (fun u => u hI)) (fun z => z.elim hc23 (fun u => absurd u (Int32.not_lt.mpr hc29))) (fun z => z.elim (zbn hc41) (fun u => u (zb_ne.mp hc51))))
          | exact k1 3 (zE3_3 (fun z => z.elim (fun u => u hH) (fun u => u hI)) (fun z => z.elim hc23 (fun u => absurd u (Int32.not_lt.mpr hc29))) (Or.inl (zb_ne.mp hc41))) (by decide)
          | exact k1 3 (zE3_3 (fun z => z.elim (fun u => u hH) (fun u => u hI)) (fun z => z.elim hc23 (fun u => absurd u (Int32.not_lt.mpr hc29))) (Or.inr (zbn hc51))) (by decide)
          | exact k1 2 (zE3_2 (fun z => z.elim (fun u => u hH) (fun u => u hI)) (Or.inl hc23)) (by decide)
          | exact k1 2 (zE3_2 (fun z => z.elim (fun u => u hH) (fun u => u hI)) (Or.inr (Int32.not_le.mp hc29))) (by decide)
          | exact k1 1 (zE3_1 (Or.inl (zb_eq.mp hc6))) (by decide)
          | exact k1 1 (zE3_1 (Or.inr (zbn hc14))) (by decide)
      · refine zz_iload_n (pc := 26) C dX3_setGroup_26 rfl ?_
        refine zz_bipush (pc := 27) C (v := 40) (by decide) dX3_setGroup_27 ?_
        refine zz_icmp_le (pc := 29) C (tgt := 36) dX3_setGroup_29 (by decide) (fun hc29 => ?_) (fun hc29 => ?_)
        · refine zz_aload_n (pc := 36) C dX3_setGroup_36 rfl ?_
          refine zz_iload_n (pc := 37) C dX3_setGroup_37 rfl ?_
          refine zz_callV (pc := 38) C (c_xcannot l D hR hx) gX3_setGroup_X3_cannot rfl 1 (by decide +kernel) ⟨Nat.le_of_ble_eq_true rfl, Nat.le_of_ble_eq_true rfl⟩ hR.2.1 (ci := 3) rfl rfl rfl dX3_setGroup_38 rfl (Nat.le_of_ble_eq_true rfl) rfl ⟨Nat.le_of_ble_eq_true rfl, Nat.le_of_ble_eq_true rfl⟩ ?_
          rintro v G9 ⟨rfl, rfl⟩
          refine zz_if_ne (pc := 41) C (tgt := 54) dX3_setGroup_41 (by decide) (fun hc41 => ?_) (fun hc41 => ?_)
          · refine zz_iconst (pc := 54) C (v := 3) (by decide) dX3_setGroup_54 ?_
            refine zz_goto (pc := 55) C (tgt := 59) dX3_setGroup_55 (by decide) ?_
            first
              | exact k0 (zE3_0 (fun z => z.elim (fun u => u hH) (fun u => u hI)) (fun z => z.elim hc23 (fun u => absurd u (Int32.not_lt.mpr hc29))) (fun z => z.elim (zbn hc41) (fun u => u (zb_ne.mp hc51))))
              | exact k1 3 (zE3_3 (fun z => z.elim (fun u => u hH) (fun u => u hI)) (fun z => z.elim hc23 (fun u => absurd u (Int32.not_lt.mpr hc29))) (Or.inl (zb_ne.mp hc41))) (by decide)
              | exact k1 3 (zE3_3 (fun z => z.elim (fun u => u hH) (fun u => u hI)) (fun z => z.elim hc23 (fun u => absurd u (Int32.not_lt.mpr hc29))) (Or.inr (zbn hc51))) (by decide)
              | exact k1 2 (zE3_2 (fun z => z.elim (fun u => u hH) (fun u => u hI)) (Or.inl hc23)) (by decide)
              | exact k1 2 (zE3_2 (fun z => z.elim (fun u => u hH) (fun u => u hI)) (Or.inr (Int32.not_le.mp hc29))) (by decide)
              | exact k1 1 (zE3_1 (Or.inl (zb_eq.mp hc6))) (by decide)
              | exact k1 1 (zE3_1 (Or.inr (zbn hc14))) (by decide)
          · refine zz_aload_n (pc := 44) C dX3_setGroup_44 rfl ?_
            refine zz_iload_n (pc := 45) C dX3_setGroup_45 rfl ?_
            refine zz_iload_n (pc := 46) C dX3_setGroup_46 rfl ?_
            refine zz_iload_n (pc := 47) C dX3_setGroup_47 rfl ?_
            refine zz_callV (pc := 48) C (c_X3_isPossible l D hR (x := x) (t := t) (g9 := g9) h00 hx ht) gX3_setGroup_X3_isPossible rfl 3 (by decide +kernel) ⟨Nat.le_of_ble_eq_true rfl, Nat.le_of_ble_eq_true rfl⟩ hR.2.1 (ci := 3) rfl rfl rfl dX3_setGroup_48 rfl (Nat.le_of_ble_eq_true rfl) rfl ⟨Nat.le_of_ble_eq_true rfl, Nat.le_of_ble_eq_true rfl⟩ ?_
            rintro v G9 ⟨rfl, rfl⟩
            refine zz_if_ne (pc := 51) C (tgt := 58) dX3_setGroup_51 (by decide) (fun hc51 => ?_) (fun hc51 => ?_)
            · refine zz_iconst (pc := 58) C (v := 0) (by decide) dX3_setGroup_58 ?_
              first
                | exact k0 (zE3_0 (fun z => z.elim (fun u => u hH) (fun u => u hI)) (fun z => z.elim hc23 (fun u => absurd u (Int32.not_lt.mpr hc29))) (fun z => z.elim (zbn hc41) (fun u => u (zb_ne.mp hc51))))
                | exact k1 3 (zE3_3 (fun z => z.elim (fun u => u hH) (fun u => u hI)) (fun z => z.elim hc23 (fun u => absurd u (Int32.not_lt.mpr hc29))) (Or.inl (zb_ne.mp hc41))) (by decide)
                | exact k1 3 (zE3_3 (fun z => z.elim (fun u => u hH) (fun u => u hI)) (fun z => z.elim hc23 (fun u => absurd u (Int32.not_lt.mpr hc29))) (Or.inr (zbn hc51))) (by decide)
                | exact k1 2 (zE3_2 (fun z => z.elim (fun u => u hH) (fun u => u hI)) (Or.inl hc23)) (by decide)
                | exact k1 2 (zE3_2 (fun z => z.elim (fun u => u hH) (fun u => u hI)) (Or.inr (Int32.not_le.mp hc29))) (by decide)
                | exact k1 1 (zE3_1 (Or.inl (zb_eq.mp hc6))) (by decide)
                | exact k1 1 (zE3_1 (Or.inr (zbn hc14))) (by decide)
            · refine zz_iconst (pc := 54) C (v := 3) (by decide) dX3_setGroup_54 ?_
              refine zz_goto (pc := 55) C (tgt := 59) dX3_setGroup_55 (by decide) ?_
              first
                | exact k0 (zE3_0 (fun z => z.elim (fun u => u hH) (fun u => u hI)) (fun z => z.elim hc23 (fun u => absurd u (Int32.not_lt.mpr hc29))) (fun z => z.elim (zbn hc41) (fun u => u (zb_ne.mp hc51))))
                | exact k1 3 (zE3_3 (fun z => z.elim (fun u => u hH) (fun u => u hI)) (fun z => z.elim hc23 (fun u => absurd u (Int32.not_lt.mpr hc29))) (Or.inl (zb_ne.mp hc41))) (by decide)
                | exact k1 3 (zE3_3 (fun z => z.elim (fun u => u hH) (fun u => u hI)) (fun z => z.elim hc23 (fun u => absurd u (Int32.not_lt.mpr hc29))) (Or.inr (zbn hc51))) (by decide)
                | exact k1 2 (zE3_2 (fun z => z.elim (fun u => u hH) (fun u => u hI)) (Or.inl hc23)) (by decide)
                | exact k1 2 (zE3_2 (fun z => z.elim (fun u => u hH) (fun u => u hI)) (Or.inr (Int32.not_le.mp hc29))) (by decide)
                | exact k1 1 (zE3_1 (Or.inl (zb_eq.mp hc6))) (by decide)
                | exact k1 1 (zE3_1 (Or.inr (zbn hc14))) (by decide)
        · refine zz_iconst (pc := 32) C (v := 2) (by decide) dX3_setGroup_32 ?_
          refine zz_goto (pc := 33) C (tgt := 59) dX3_setGroup_33 (by decide) ?_
          first
            | exact k0 (zE3_0 (fun z => z.elim (fun u => u hH) (fun u => u hI)) (fun z => z.elim hc23 (fun u => absurd u (Int32.not_lt.mpr hc29))) (fun z => z.elim (zbn hc41) (fun u => u (zb_ne.mp hc51))))
            | exact k1 3 (zE3_3 (fun z => z.elim (fun u => u hH) (fun u => u hI)) (fun z => z.elim hc23 (fun u => absurd u (Int32.not_lt.mpr hc29))) (Or.inl (zb_ne.mp hc41))) (by decide)
            | exact k1 3 (zE3_3 (fun z => z.elim (fun u => u hH) (fun u => u hI)) (fun z => z.elim hc23 (fun u => absurd u (Int32.not_lt.mpr hc29))) (Or.inr (zbn hc51))) (by decide)
            | exact k1 2 (zE3_2 (fun z => z.elim (fun u => u hH) (fun u => u hI)) (Or.inl hc23)) (by decide)
            | exact k1 2 (zE3_2 (fun z => z.elim (fun u => u hH) (fun u => u hI)) (Or.inr (Int32.not_le.mp hc29))) (by decide)
            | exact k1 1 (zE3_1 (Or.inl (zb_eq.mp hc6))) (by decide)
            | exact k1 1 (zE3_1 (Or.inr (zbn hc14))) (by decide)
    · refine zz_iconst (pc := 17) C (v := 1) (by decide) dX3_setGroup_17 ?_
      refine zz_goto (pc := 18) C (tgt := 59) dX3_setGroup_18 (by decide) ?_
      first
        | exact k0 (zE3_0 (fun z => z.elim (fun u => u hH) (fun u => u hI)) (fun z => z.elim hc23 (fun u => absurd u (Int32.not_lt.mpr hc29))) (fun z => z.elim (zbn hc41) (fun u => u (zb_ne.mp hc51))))
        | exact k1 3 (zE3_3 (fun z => z.elim (fun u => u hH) (fun u => u hI)) (fun z => z.elim hc23 (fun u => absurd u (Int32.not_lt.mpr hc29))) (Or.inl (zb_ne.mp hc41))) (by decide)
        | exact k1 3 (zE3_3 (fun z => z.elim (fun u => u hH) (fun u => u hI)) (fun z => z.elim hc23 (fun u => absurd u (Int32.not_lt.mpr hc29))) (Or.inr (zbn hc51))) (by decide)
        | exact k1 2 (zE3_2 (fun z => z.elim (fun u => u hH) (fun u => u hI)) (Or.inl hc23)) (by decide)
        | exact k1 2 (zE3_2 (fun z => z.elim (fun u => u hH) (fun u => u hI)) (Or.inr (Int32.not_le.mp hc29))) (by decide)
        | exact k1 1 (zE3_1 (Or.inl (zb_eq.mp hc6))) (by decide)
        | exact k1 1 (zE3_1 (Or.inr (zbn hc14))) (by decide)
