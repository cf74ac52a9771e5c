theorem zs9 {s : Int32} (h0 : ¬ s < 0) (h : s < 9) : s = nI (pn s) ∧ pn s < 9 := by
  obtain ⟨j, hj, rfl⟩ := nI_of h0
  have e : pn (nI j) = j := nI_clamp hj
  have h2 : nI j < nI 9 := h
  have := (nI_ltI hj (by decide)).mp h2
  rw [e]
  exact ⟨rfl, by omega⟩
theorem zCode_s {a b : Nat} {x s : Int32} (hx : x = nI a) (hs : s = nI b) (hb : b < 9) : 1000 * 1 + 50 * s + x = nI (zCode (b, a)) := by
  subst hx; subst hs
  have h9 : ¬ b = 9 := by omega
  have h10 : ¬ b = 10 := by omega
  unfold zCode
  simp only [h9, h10, if_false]
  show nI 1000 * nI 1 + nI 50 * nI b + nI a = _
  rw [pk_mul, pk_mul, nI_add, nI_add]
theorem c_msends (l : Launch) (D : va_G) {B G : zG} {y : Nat} {ma : Nat → Nat} {r σ : zS} {q : List zEv} {g s : Int32} (hR : zModR B y ma r G) (hag : zAg r σ) (h00 : σ 0 0 = 0) (hs : s = nI (pn s) ∧ pn s < 9) (hring : zRing r q) (hroom : q.length + 41 < 8192) : zMet D l yX3_sends wsX3_sends ({ frames := 1, cells := 0, slots := 0, locals := 23 } : Room) [.ref y, .int g, .int s] G (fun v G9 => v = some (.int (nI (zMemL σ g 41).length)) ∧ ∃ r2, zModR B y ma r2 G9 ∧ zAg r2 σ ∧ r2 23 = r 23 ∧ zRing r2 (q ++ zSends σ g (pn s) 41)) := by
  have h := c_X3_sends l D hR (g := g) (sg := pn s) (by rw [hag 0 (by decide)]; exact h00) hs.2 hring hroom
  rw [← hs.1] at h
  refine h.imp ?_
  rintro v G9 ⟨rfl, r2, h1, h2, h3, h4⟩
  exact ⟨by rw [zMemL_ag hag], r2, h1, h2.tr hag, h3 23 (Or.inl rfl), by rw [← zSends_ag hag]; exact h4⟩
def zRunX (N : Nat) (X : zS × List zEv) : Prop := ∀ (s : zS) (q : List zEv), X = (s, q) → zRun N s q
theorem c_xgoes (l : Launch) (D : va_G) {B G : zG} {y : Nat} {ma : Nat → Nat} {r : zS} {X : zS × List zEv} {N : Nat} (hR : zModR B y ma r G) (hrun : zRunX N X) (hag : zAg r X.1) (hring : zRing r X.2) : zMet D l yX3_goes wsX3_goes ({ frames := 6, cells := 0, slots := 0, locals := 141 } : Room) [.ref y] G (fun v G9 => v = none ∧ ∃ r2, zModR B y ma r2 G9 ∧ zAg r2 (zFin N X) ∧ r2 23 = r 23 ∧ zRing r2 []) := c_X3_goes l D hR hag hring (hrun X.1 X.2 rfl)
theorem zm1m (x : Int32) : x &&& (-1) = x := by
  apply zbit_ext
  intro s hs
  rw [zbit_and]
  have : ∀ t : Fin 32, zbit (-1) t.val = true := by decide +kernel
  rw [this ⟨s, hs⟩, Bool.and_true]

set_option maxHeartbeats 4000000 in
set_option maxRecDepth 100000 in
theorem c_X3_exit (l : Launch) (D : va_G) {B G : zG} {y : Nat} {ma : Nat → Nat} {r : zS} {σ : zS} {x c9 : Int32} {N : Nat} (hR : zModR B y ma r G) (hag : zAg r σ) (hring : zRing r []) (hL : zHere σ x → pn x ≠ 1 → zLv σ (pn x)) (hrun : zE3 (¬ zHere σ x) (c9 < 0 ∨ (255 : Int32) < c9) (zNot σ (pn x)) = 0 → zRunX N (zTerm (σ, []) (pn x) 0 c9)) : zMet D l yX3_exit wsX3_exit ({ frames := 7, cells := 0, slots := 0, locals := 163 } : Room) [.ref y, .int x, .int c9] G (fun v G9 => v = none ∧ zMod B y ma (if zE3 (¬ zHere σ x) (c9 < 0 ∨ (255 : Int32) < c9) (zNot σ (pn x)) = 0 then zFin N (zTerm (σ, []) (pn x) 0 c9) else σ) [] (zE3 (¬ zHere σ x) (c9 < 0 ∨ (255 : Int32) < c9) (zNot σ (pn x))) G9) := by
  refine zMet_of (cc := cX3_exit) (maxL := 3) (ret := none) (by decide) rfl (Nat.le_of_ble_eq_true rfl) ?_
  intro p e s m args below meth c C hmn
  obtain ⟨t9, rfl⟩ : ∃ t9, r = zMix σ t9 := ⟨r, zMix_of hag⟩
  have k0 : zE3 (¬ zHere σ x) (c9 < 0 ∨ (255 : Int32) < c9) (zNot σ (pn x)) = 0 → zV p l e ({ frames := 7, cells := 0, slots := 0, locals := 163 } : Room) s m args below meth c D (zA G s.heap.size) 0 0 (zZ below D G (fun v G9 => v = none ∧ zMod B y ma (if zE3 (¬ zHere σ x) (c9 < 0 ∨ (255 : Int32) < c9) (zNot σ (pn x)) = 0 then zFin N (zTerm (σ, []) (pn x) 0 c9) else σ) [] (zE3 (¬ zHere σ x) (c9 < 0 ∨ (255 : Int32) < c9) (zNot σ (pn x))) G9) args s ({ frames := 7, cells := 0, slots := 0, locals := 163 } : Room)) G 41 [some (.ref y), some (.int x), some (.int c9)] [.int 0, .ref y] := by
    intro hT
    have hH : zHere σ x := Classical.not_not.mp (zE3_z hT).1
    have hx := hH.at
    have hnot : ¬ zNot σ (pn x) := (zE3_z hT).2.2
    have hr9 := hrun hT
    refine zz_callV (pc := 41) C (c_X3_fails l D hR (w := 0)) gX3_exit_X3_fails rfl 1 (by decide +kernel) ⟨Nat.le_of_ble_eq_true rfl, Nat.le_of_ble_eq_true rfl⟩ hR.2.1 (ci := 3) rfl rfl rfl dX3_exit_41 rfl (Nat.le_of_ble_eq_true rfl) rfl ⟨Nat.le_of_ble_eq_true rfl, Nat.le_of_ble_eq_true rfl⟩ ?_
    rintro v G9 ⟨rfl, hR⟩
    have hag : zAg (zu (zMix σ t9) 23 0 0) σ := zAg_off hag (by decide)
    have hring : zRing (zu (zMix σ t9) 23 0 0) [] := hring.ag rfl rfl rfl
    have h23 : (zu (zMix σ t9) 23 0 0) 23 0 = 0 := zu_self
    refine zz_if_eq (pc := 44) C (tgt := 48) dX3_exit_44 (by decide) (fun hc44 => ?_) (fun hc44 => ?_)
    · refine zz_aload_n (pc := 48) C dX3_exit_48 rfl ?_
      refine zz_iload_n (pc := 49) C dX3_exit_49 rfl ?_
      refine zz_iconst (pc := 50) C (v := 0) (by decide) dX3_exit_50 ?_
      refine zz_iload_n (pc := 51) C dX3_exit_51 rfl ?_
      refine zz_callV (pc := 52) C (c_xterm l D hR (σ := σ) (how := 0) (w := c9) hag hx (hL hH (fun z => hnot (Or.inl z))) hring (by decide)) gX3_exit_X3_terminates rfl 3 (by decide +kernel) ⟨Nat.le_of_ble_eq_true rfl, Nat.le_of_ble_eq_true rfl⟩ hR.2.1 (ci := 3) rfl rfl rfl dX3_exit_52 rfl (Nat.le_of_ble_eq_true rfl) rfl ⟨Nat.le_of_ble_eq_true rfl, Nat.le_of_ble_eq_true rfl⟩ ?_
      rintro v G9 ⟨rfl, r2, hR2, hag2, h232, hring2⟩
      refine zz_aload_n (pc := 55) C dX3_exit_55 rfl ?_
      refine zz_callV (pc := 56) C (c_xgoes l D hR2 (N := N) hr9 hag2 hring2) gX3_exit_X3_goes rfl 0 (by decide +kernel) ⟨Nat.le_of_ble_eq_true rfl, Nat.le_of_ble_eq_true rfl⟩ hR2.2.1 (ci := 3) rfl rfl rfl dX3_exit_56 rfl (Nat.le_of_ble_eq_true rfl) rfl ⟨Nat.le_of_ble_eq_true rfl, Nat.le_of_ble_eq_true rfl⟩ ?_
      rintro v G9 ⟨rfl, r3, hR3, hag3, h233, hring3⟩
      exact zz_return (pc := 59) C dX3_exit_59 (Nat.le_refl _) (Nat.le_refl _) ⟨rfl, zMod.ok hT hR3 hag3 ((congrFun (h233.trans h232) 0).trans h23) hring3⟩
    · exact (z01 hc44).elim
  have k1 : ∀ w9 : Int32, zE3 (¬ zHere σ x) (c9 < 0 ∨ (255 : Int32) < c9) (zNot σ (pn x)) = w9 → 0 < w9 → zV p l e ({ frames := 7, cells := 0, slots := 0, locals := 163 } : Room) s m args below meth c D (zA G s.heap.size) 0 0 (zZ below D G (fun v G9 => v = none ∧ zMod B y ma (if zE3 (¬ zHere σ x) (c9 < 0 ∨ (255 : Int32) < c9) (zNot σ (pn x)) = 0 then zFin N (zTerm (σ, []) (pn x) 0 c9) else σ) [] (zE3 (¬ zHere σ x) (c9 < 0 ∨ (255 : Int32) < c9) (zNot σ (pn x))) G9) args s ({ frames := 7, cells := 0, slots := 0, locals := 163 } : Room)) G 41 [some (.ref y), some (.int x), some (.int c9)] [.int w9, .ref y] := by
    intro w9 hT hw9
    refine zz_callV (pc := 41) C (c_X3_fails l D hR (w := w9)) gX3_exit_X3_fails rfl 1 (by decide +kernel) ⟨Nat.le_of_ble_eq_true rfl, Nat.le_of_ble_eq_true rfl⟩ hR.2.1 (ci := 3) rfl rfl rfl dX3_exit_41 rfl (Nat.le_of_ble_eq_true rfl) rfl ⟨Nat.le_of_ble_eq_true rfl, Nat.le_of_ble_eq_true rfl⟩ ?_
    rintro v G9 ⟨rfl, hR⟩
    have hag : zAg (zu (zMix σ t9) 23 0 w9) σ := zAg_off hag (by decide)
    have hring : zRing (zu (zMix σ t9) 23 0 w9) [] := hring.ag rfl rfl rfl
    have h23 : (zu (zMix σ t9) 23 0 w9) 23 0 = w9 := zu_self
    refine zz_if_eq (pc := 44) C (tgt := 48) dX3_exit_44 (by decide) (fun hc44 => ?_) (fun hc44 => ?_)
    · exact (zw0 hc44 hw9).elim
    · exact zz_return (pc := 47) C dX3_exit_47 (Nat.le_refl _) (Nat.le_refl _) ⟨rfl, zMod.no hT hw9 hR hag h23 hring⟩
  refine zz_aload_n (pc := 0) C dX3_exit_0 rfl ?_
  refine zz_aload_n (pc := 1) C dX3_exit_1 rfl ?_
  refine zz_iload_n (pc := 2) C dX3_exit_2 rfl ?_
  refine zz_callV (pc := 3) C (c_X3_is l D hR (x := x)) gX3_exit_X3_is rfl 1 (by decide +kernel) ⟨Nat.le_of_ble_eq_true rfl, Nat.le_of_ble_eq_true rfl⟩ hR.2.1 (ci := 3) rfl rfl rfl dX3_exit_3 rfl (Nat.le_of_ble_eq_true rfl) rfl ⟨Nat.le_of_ble_eq_true rfl, Nat.le_of_ble_eq_true rfl⟩ ?_
  rintro v G9 ⟨rfl, rfl⟩
  refine zz_if_ne (pc := 6) C (tgt := 13) dX3_exit_6 (by decide) (fun hc6 => ?_) (fun hc6 => ?_)
  · have hH : zHere σ x := zbp hc6
    have hx := hH.at
    refine zz_iload_n (pc := 13) C dX3_exit_13 rfl ?_
    refine zz_if_lt (pc := 14) C (tgt := 24) dX3_exit_14 (by decide) (fun hc14 => ?_) (fun hc14 => ?_)
    · refine zz_iconst (pc := 24) C (v := 2) (by decide) dX3_exit_24 ?_
      refine zz_goto (pc := 25) C (tgt := 41) dX3_exit_25 (by decide) ?_
      first
        | exact k0 (zE3_0 (fun z => z hH) (fun z => z.elim hc14 (fun u => absurd u (Int32.not_lt.mpr hc21))) (zb_eq.mp hc33))
        | exact k1 3 (zE3_3 (fun z => z hH) (fun z => z.elim hc14 (fun u => absurd u (Int32.not_lt.mpr hc21))) (zbp hc33)) (by decide)
        | exact k1 2 (zE3_2 (fun z => z hH) (Or.inl hc14)) (by decide)
        | exact k1 2 (zE3_2 (fun z => z hH) (Or.inr (Int32.not_le.mp hc21))) (by decide)
        | exact k1 1 (zE3_1 (zbn hc6)) (by decide)
    · refine zz_iload_n (pc := 17) C dX3_exit_17 rfl ?_
      refine zz_sipush (pc := 18) C (v := 255) (by decide) dX3_exit_18 ?_
      refine zz_icmp_le (pc := 21) C (tgt := 28) dX3_exit_21 (by decide) (fun hc21 => ?_) (fun hc21 => ?_)
      · refine zz_aload_n (pc := 28) C dX3_exit_28 rfl ?_
        refine zz_iload_n (pc := 29) C dX3_exit_29 rfl ?_
        refine zz_callV (pc := 30) C (c_xcannot l D hR hx) gX3_exit_X3_cannot rfl 1 (by decide +kernel) ⟨Nat.le_of_ble_eq_true rfl, Nat.le_of_ble_eq_true rfl⟩ hR.2.1 (ci := 3) rfl rfl rfl dX3_exit_30 rfl (Nat.le_of_ble_eq_true rfl) rfl ⟨Nat.le_of_ble_eq_true rfl, Nat.le_of_ble_eq_true rfl⟩ ?_
        rintro v G9 ⟨rfl, rfl⟩
        refine zz_if_eq (pc := 33) C (tgt := 40) dX3_exit_33 (by decide) (fun hc33 => ?_) (fun hc33 => ?_)
        · refine zz_iconst (pc := 40) C (v := 0) (by decide) dX3_exit_40 ?_
          first
            | exact k0 (zE3_0 (fun z => z hH) (fun z => z.elim hc14 (fun u => absurd u (Int32.not_lt.mpr hc21))) (zb_eq.mp hc33))
            | exact k1 3 (zE3_3 (fun z => z hH) (fun z => z.elim hc14 (fun u => absurd u (Int32.not_lt.mpr hc21))) (zbp hc33)) (by decide)
            | exact k1 2 (zE3_2 (fun z => z hH) (Or.inl hc14)) (by decide)
            | exact k1 2 (zE3_2 (fun z => z hH) (Or.inr (Int32.not_le.mp hc21))) (by decide)
            | exact k1 1 (zE3_1 (zbn hc6)) (by decide)
        · refine zz_iconst (pc := 36) C (v := 3) (by decide) dX3_exit_36 ?_
          refine zz_goto (pc := 37) C (tgt := 41) dX3_exit_37 (by decide) ?_
          first
            | exact k0 (zE3_0 (fun z => z hH) (fun z => z.elim hc14 (fun u => absurd u (Int32.not_lt.mpr hc21))) (zb_eq.mp hc33))
            | exact k1 3 (zE3_3 (fun z => z hH) (fun z => z.elim hc14 (fun u => absurd u (Int32.not_lt.mpr hc21))) (zbp hc33)) (by decide)
            | exact k1 2 (zE3_2 (fun z => z hH) (Or.inl hc14)) (by decide)
            | exact k1 2 (zE3_2 (fun z => z hH) (Or.inr (Int32.not_le.mp hc21))) (by decide)
            | exact k1 1 (zE3_1 (zbn hc6)) (by decide)
      · refine zz_iconst (pc := 24) C (v := 2) (by decide) dX3_exit_24 ?_
        refine zz_goto (pc := 25) C (tgt := 41) dX3_exit_25 (by decide) ?_
        first
          | exact k0 (zE3_0 (fun z => z hH) (fun z => z.elim hc14 (fun u => absurd u (Int32.not_lt.mpr hc21))) (zb_eq.mp hc33))
          | exact k1 3 (zE3_3 (fun z => z hH) (fun z => z.elim hc14 (fun u => absurd u (Int32.not_lt.mpr hc21))) (zbp hc33)) (by decide)
          | exact k1 2 (zE3_2 (fun z => z hH) (Or.inl hc14)) (by decide)
          | exact k1 2 (zE3_2 (fun z => z hH) (Or.inr (Int32.not_le.mp hc21))) (by decide)
          | exact k1 1 (zE3_1 (zbn hc6)) (by decide)
  · refine zz_iconst (pc := 9) C (v := 1) (by decide) dX3_exit_9 ?_
    refine zz_goto (pc := 10) C (tgt := 41) dX3_exit_10 (by decide) ?_
    first
      | exact k0 (zE3_0 (fun z => z hH) (fun z => z.elim hc14 (fun u => absurd u (Int32.not_lt.mpr hc21))) (zb_eq.mp hc33))
      | exact k1 3 (zE3_3 (fun z => z hH) (fun z => z.elim hc14 (fun u => absurd u (Int32.not_lt.mpr hc21))) (zbp hc33)) (by decide)
      | exact k1 2 (zE3_2 (fun z => z hH) (Or.inl hc14)) (by decide)
      | exact k1 2 (zE3_2 (fun z => z hH) (Or.inr (Int32.not_le.mp hc21))) (by decide)
      | exact k1 1 (zE3_1 (zbn hc6)) (by decide)
def zMk (σ : zS) (p : Nat) (c : Int32) : zS := zu σ 10 p (c &&& (-37))
theorem zMk_off {σ : zS} {p f : Nat} {c : Int32} (h : f ≠ 10) : zMk σ p c f = σ f := zu_off h
theorem zMk_ag {r s : zS} {p : Nat} {c : Int32} (h : zAg r s) : zAg (zu r 10 p (c &&& (-37))) (zMk s p c) := zAg_zu h
theorem fl_X3_setMask_41 : Cond.fieldLink RX3 41 "SignalpostModel" "mask" "[I" ∈ wsX3_setMask := by decide +kernel
theorem in_X3_setMask_X3 : ∀ w ∈ u_ws RX3 TX3 29, w ∈ wsX3_setMask := by decide +kernel
set_option maxHeartbeats 4000000 in
set_option maxRecDepth 100000 in
theorem c_X3_setMask (l : Launch) (D : va_G) {B G : zG} {y : Nat} {ma : Nat → Nat} {r : zS} {σ : zS} {x c9 : Int32} {N : Nat} (hR : zModR B y ma r G) (hag : zAg r σ) (hring : zRing r []) (h00 : σ 0 0 = 0) (h511 : ∀ k, σ 11 k &&& 511 = σ 11 k) (hL : zHere σ x → pn x ≠ 1 → zLv σ (pn x)) (hrun : zE3 (¬ zHere σ x) (c9 < 0 ∨ (511 : Int32) < c9) (zNot σ (pn x)) = 0 → zRunX N (zDel ((zMk σ (pn x) c9), []) (pn x))) : zMet D l yX3_setMask wsX3_setMask ({ frames := 7, cells := 0, slots := 0, locals := 163 } : Room) [.ref y, .int x, .int c9] G (fun v G9 => v = some (.int (if zE3 (¬ zHere σ x) (c9 < 0 ∨ (511 : Int32) < c9) (zNot σ (pn x)) = 0 then σ 10 (pn x) else 0)) ∧ zMod B y ma (if zE3 (¬ zHere σ x) (c9 < 0 ∨ (511 : Int32) < c9) (zNot σ (pn x)) = 0 then zFin N (zDel ((zMk σ (pn x) c9), []) (pn x)) else σ) [] (zE3 (¬ zHere σ x) (c9 < 0 ∨ (511 : Int32) < c9) (zNot σ (pn x))) G9) := by
  refine zMet_of (cc := cX3_setMask) (maxL := 4) (ret := (some .int)) (by decide) rfl (Nat.le_of_ble_eq_true rfl) ?_
  intro p e s m args below meth c C hmn
  obtain ⟨t9, rfl⟩ : ∃ t9, r = zMix σ t9 := ⟨r, zMix_of hag⟩
  have k0 : zE3 (¬ zHere σ x) (c9 < 0 ∨ (511 : Int32) < c9) (zNot σ (pn x)) = 0 → zV p l e ({ frames := 7, cells := 0, slots := 0, locals := 163 } : Room) s m args below meth c D (zA G s.heap.size) 0 0 (zZ below D G (fun v G9 => v = some (.int (if zE3 (¬ zHere σ x) (c9 < 0 ∨ (511 : Int32) < c9) (zNot σ (pn x)) = 0 then σ 10 (pn x) else 0)) ∧ zMod B y ma (if zE3 (¬ zHere σ x) (c9 < 0 ∨ (511 : Int32) < c9) (zNot σ (pn x)) = 0 then zFin N (zDel ((zMk σ (pn x) c9), []) (pn x)) else σ) [] (zE3 (¬ zHere σ x) (c9 < 0 ∨ (511 : Int32) < c9) (zNot σ (pn x))) G9) args s ({ frames := 7, cells := 0, slots := 0, locals := 163 } : Room)) G 41 [some (.ref y), some (.int x), some (.int c9), none] [.int 0, .ref y] := by
    intro hT
    have hH : zHere σ x := Classical.not_not.mp (zE3_z hT).1
    have hx := hH.at
    have hnot : ¬ zNot σ (pn x) := (zE3_z hT).2.2
    have hr9 := hrun hT
    refine zz_callV (pc := 41) C (c_X3_fails l D hR (w := 0)) gX3_setMask_X3_fails rfl 1 (by decide +kernel) ⟨Nat.le_of_ble_eq_true rfl, Nat.le_of_ble_eq_true rfl⟩ hR.2.1 (ci := 3) rfl rfl rfl dX3_setMask_41 rfl (Nat.le_of_ble_eq_true rfl) rfl ⟨Nat.le_of_ble_eq_true rfl, Nat.le_of_ble_eq_true rfl⟩ ?_
    rintro v G9 ⟨rfl, hR⟩
    have hag : zAg (zu (zMix σ t9) 23 0 0) σ := zAg_off hag (by decide)
    have hring : zRing (zu (zMix σ t9) 23 0 0) [] := hring.ag rfl rfl rfl
    have h23 : (zu (zMix σ t9) 23 0 0) 23 0 = 0 := zu_self
    refine zz_if_eq (pc := 44) C (tgt := 49) dX3_setMask_44 (by decide) (fun hc44 => ?_) (fun hc44 => ?_)
    · refine zz_aload_n (pc := 49) C dX3_setMask_49 rfl ?_
      refine zz_get (pc := 50) C in_X3_setMask_X3 (ci := 3) rfl 10 (by decide) (fl_X3_setMask_41) rfl dX3_setMask_50 hR.2.1 rfl ?_
      refine zz_iload_n (pc := 53) C dX3_setMask_53 rfl ?_
      refine zz_mld (pc := 54) C hR 10 (by decide) rfl dX3_setMask_54 hx.1 (by show _ < 41; have := hx.2.2; omega) ?_
      refine zz_istore_n (pc := 55) C dX3_setMask_55 (Nat.le_of_ble_eq_true rfl) ?_
      refine zz_aload_n (pc := 56) C dX3_setMask_56 rfl ?_
      refine zz_get (pc := 57) C in_X3_setMask_X3 (ci := 3) rfl 10 (by decide) (fl_X3_setMask_41) rfl dX3_setMask_57 hR.2.1 rfl ?_
      refine zz_iload_n (pc := 60) C dX3_setMask_60 rfl ?_
      refine zz_iload_n (pc := 61) C dX3_setMask_61 rfl ?_
      refine zz_bipush (pc := 62) C (v := -37) (by decide) dX3_setMask_62 ?_
      refine zz_iand (pc := 64) C dX3_setMask_64 ?_
      refine zz_mst (pc := 65) C hR 10 (by decide) rfl dX3_setMask_65 hx.1 (by show _ < 41; have := hx.2.2; omega) (fun G hR => ?_)
      refine zz_aload_n (pc := 66) C dX3_setMask_66 rfl ?_
      refine zz_iload_n (pc := 67) C dX3_setMask_67 rfl ?_
      refine zz_callV (pc := 68) C (c_xdel l D hR (σ := (zMk σ (pn x) c9)) (zMk_ag hag) hx (by rw [zMk_off (by decide)]; exact h00) (fun _ => (hL hH (fun z => hnot (Or.inl z))).ag (zMk_off (by decide)) (zMk_off (by decide)) (zMk_off (by decide))) (by rw [zMk_off (by decide)]; exact h511 _) (hring.ag rfl rfl rfl) (by decide)) gX3_setMask_X3_delivers rfl 1 (by decide +kernel) ⟨Nat.le_of_ble_eq_true rfl, Nat.le_of_ble_eq_true rfl⟩ hR.2.1 (ci := 3) rfl rfl rfl dX3_setMask_68 rfl (Nat.le_of_ble_eq_true rfl) rfl ⟨Nat.le_of_ble_eq_true rfl, Nat.le_of_ble_eq_true rfl⟩ ?_
      rintro v G9 ⟨rfl, r2, hR2, hag2, h232, hring2⟩
      refine zz_aload_n (pc := 71) C dX3_setMask_71 rfl ?_
      refine zz_callV (pc := 72) C (c_xgoes l D hR2 (N := N) hr9 hag2 hring2) gX3_setMask_X3_goes rfl 0 (by decide +kernel) ⟨Nat.le_of_ble_eq_true rfl, Nat.le_of_ble_eq_true rfl⟩ hR2.2.1 (ci := 3) rfl rfl rfl dX3_setMask_72 rfl (Nat.le_of_ble_eq_true rfl) rfl ⟨Nat.le_of_ble_eq_true rfl, Nat.le_of_ble_eq_true rfl⟩ ?_
      rintro v G9 ⟨rfl, r3, hR3, hag3, h233, hring3⟩
      refine zz_iload_n (pc := 75) C dX3_setMask_75 rfl ?_
      exact zz_ireturn (pc := 76) C dX3_setMask_76 rfl (Nat.le_refl _) (Nat.le_refl _) ⟨zvok hT (rfl), zMod.ok hT hR3 hag3 ((congrFun (h233.trans h232) 0).trans h23) hring3⟩
    · exact (z01 hc44).elim
  have k1 : ∀ w9 : Int32, zE3 (¬ zHere σ x) (c9 < 0 ∨ (511 : Int32) < c9) (zNot σ (pn x)) = w9 → 0 < w9 → zV p l e ({ frames := 7, cells := 0, slots := 0, locals := 163 } : Room) s m args below meth c D (zA G s.heap.size) 0 0 (zZ below D G (fun v G9 => v = some (.int (if zE3 (¬ zHere σ x) (c9 < 0 ∨ (511 : Int32) < c9) (zNot σ (pn x)) = 0 then σ 10 (pn x) else 0)) ∧ zMod B y ma (if zE3 (¬ zHere σ x) (c9 < 0 ∨ (511 : Int32) < c9) (zNot σ (pn x)) = 0 then zFin N (zDel ((zMk σ (pn x) c9), []) (pn x)) else σ) [] (zE3 (¬ zHere σ x) (c9 < 0 ∨ (511 : Int32) < c9) (zNot σ (pn x))) G9) args s ({ frames := 7, cells := 0, slots := 0, locals := 163 } : Room)) G 41 [some (.ref y), some (.int x), some (.int c9), none] [.int w9, .ref y] := by
    intro w9 hT hw9
    refine zz_callV (pc := 41) C (c_X3_fails l D hR (w := w9)) gX3_setMask_X3_fails rfl 1 (by decide +kernel) ⟨Nat.le_of_ble_eq_true rfl, Nat.le_of_ble_eq_true rfl⟩ hR.2.1 (ci := 3) rfl rfl rfl dX3_setMask_41 rfl (Nat.le_of_ble_eq_true rfl) rfl ⟨Nat.le_of_ble_eq_true rfl, Nat.le_of_ble_eq_true rfl⟩ ?_
    rintro v G9 ⟨rfl, hR⟩
    have hag : zAg (zu (zMix σ t9) 23 0 w9) σ := zAg_off hag (by decide)
    have hring : zRing (zu (zMix σ t9) 23 0 w9) [] := hring.ag rfl rfl rfl
    have h23 : (zu (zMix σ t9) 23 0 w9) 23 0 = w9 := zu_self
    refine zz_if_eq (pc := 44) C (tgt := 49) dX3_setMask_44 (by decide) (fun hc44 => ?_) (fun hc44 => ?_)
    · exact (zw0 hc44 hw9).elim
    · refine zz_iconst (pc := 47) C (v := 0) (by decide) dX3_setMask_47 ?_
      exact zz_ireturn (pc := 48) C dX3_setMask_48 (by first | rfl | decide) (Nat.le_refl _) (Nat.le_refl _) ⟨zvno hT hw9, zMod.no hT hw9 hR hag h23 hring⟩
  refine zz_aload_n (pc := 0) C dX3_setMask_0 rfl ?_
  refine zz_aload_n (pc := 1) C dX3_setMask_1 rfl ?_
  refine zz_iload_n (pc := 2) C dX3_setMask_2 rfl ?_
  refine zz_callV (pc := 3) C (c_X3_is l D hR (x := x)) gX3_setMask_X3_is rfl 1 (by decide +kernel) ⟨Nat.le_of_ble_eq_true rfl, Nat.le_of_ble_eq_true rfl⟩ hR.2.1 (ci := 3) rfl rfl rfl dX3_setMask_3 rfl (Nat.le_of_ble_eq_true rfl) rfl ⟨Nat.le_of_ble_eq_true rfl, Nat.le_of_ble_eq_true rfl⟩ ?_
  rintro v G9 ⟨rfl, rfl⟩
  refine zz_if_ne (pc := 6) C (tgt := 13) dX3_setMask_6 (by decide) (fun hc6 => ?_) (fun hc6 => ?_)
  · have hH : zHere σ x := zbp hc6
    have hx := hH.at
    refine zz_iload_n (pc := 13) C dX3_setMask_13 rfl ?_
    refine zz_if_lt (pc := 14) C (tgt := 24) dX3_setMask_14 (by decide) (fun hc14 => ?_) (fun hc14 => ?_)
    · refine zz_iconst (pc := 24) C (v := 2) (by decide) dX3_setMask_24 ?_
      refine zz_goto (pc := 25) C (tgt := 41) dX3_setMask_25 (by decide) ?_
      first
        | exact k0 (zE3_0 (fun z => z hH) (fun z => z.elim hc14 (fun u => absurd u (Int32.not_lt.mpr hc21))) (zb_eq.mp hc33))
        | exact k1 3 (zE3_3 (fun z => z hH) (fun z => z.elim hc14 (fun u => absurd u (Int32.not_lt.mpr hc21))) (zbp hc33)) (by decide)
        | exact k1 2 (zE3_2 (fun z => z hH) (Or.inl hc14)) (by decide)
        | exact k1 2 (zE3_2 (fun z => z hH) (Or.inr (Int32.not_le.mp hc21))) (by decide)
        | exact k1 1 (zE3_1 (zbn hc6)) (by decide)
    · refine zz_iload_n (pc := 17) C dX3_setMask_17 rfl ?_
      refine zz_sipush (pc := 18) C (v := 511) (by decide) dX3_setMask_18 ?_
      refine zz_icmp_le (pc := 21) C (tgt := 28) dX3_setMask_21 (by decide) (fun hc21 => ?_) (fun hc21 => ?_)
      · refine zz_aload_n (pc := 28) C dX3_setMask_28 rfl ?_
        refine zz_iload_n (pc := 29) C dX3_setMask_29 rfl ?_
        refine zz_callV (pc := 30) C (c_xcannot l D hR hx) gX3_setMask_X3_cannot rfl 1 (by decide +kernel) ⟨Nat.le_of_ble_eq_true rfl, Nat.le_of_ble_eq_true rfl⟩ hR.2.1 (ci := 3) rfl rfl rfl dX3_setMask_30 rfl (Nat.le_of_ble_eq_true rfl) rfl ⟨Nat.le_of_ble_eq_true rfl, Nat.le_of_ble_eq_true rfl⟩ ?_
        rintro v G9 ⟨rfl, rfl⟩
        refine zz_if_eq (pc := 33) C (tgt := 40) dX3_setMask_33 (by decide) (fun hc33 => ?_) (fun hc33 => ?_)
        · refine zz_iconst (pc := 40) C (v := 0) (by decide) dX3_setMask_40 ?_
          first
            | exact k0 (zE3_0 (fun z => z hH) (fun z => z.elim hc14 (fun u => absurd u (Int32.not_lt.mpr hc21))) (zb_eq.mp hc33))
            | exact k1 3 (zE3_3 (fun z => z hH) (fun z => z.elim hc14 (fun u => absurd u (Int32.not_lt.mpr hc21))) (zbp hc33)) (by decide)
            | exact k1 2 (zE3_2 (fun z => z hH) (Or.inl hc14)) (by decide)
            | exact k1 2 (zE3_2 (fun z => z hH) (Or.inr (Int32.not_le.mp hc21))) (by decide)
            | exact k1 1 (zE3_1 (zbn hc6)) (by decide)
        · refine zz_iconst (pc := 36) C (v := 3) (by decide) dX3_setMask_36 ?_
          refine zz_goto (pc := 37) C (tgt := 41) dX3_setMask_37 (by decide) ?_
          first
            | exact k0 (zE3_0 (fun z => z hH) (fun z => z.elim hc14 (fun u => absurd u (Int32.not_lt.mpr hc21))) (zb_eq.mp hc33))
            | exact k1 3 (zE3_3 (fun z => z hH) (fun z => z.elim hc14 (fun u => absurd u (Int32.not_lt.mpr hc21))) (zbp hc33)) (by decide)
            | exact k1 2 (zE3_2 (fun z => z hH) (Or.inl hc14)) (by decide)
            | exact k1 2 (zE3_2 (fun z => z hH) (Or.inr (Int32.not_le.mp hc21))) (by decide)
            | exact k1 1 (zE3_1 (zbn hc6)) (by decide)
      · refine zz_iconst (pc := 24) C (v := 2) (by decide) dX3_setMask_24 ?_
        refine zz_goto (pc := 25) C (tgt := 41) dX3_setMask_25 (by decide) ?_
        first
          | exact k0 (zE3_0 (fun z => z hH) (fun z => z.elim hc14 (fun u => absurd u (Int32.not_lt.mpr hc21))) (zb_eq.mp hc33))
          | exact k1 3 (zE3_3 (fun z => z hH) (fun z => z.elim hc14 (fun u => absurd u (Int32.not_lt.mpr hc21))) (zbp hc33)) (by decide)
          | exact k1 2 (zE3_2 (fun z => z hH) (Or.inl hc14)) (by decide)
          | exact k1 2 (zE3_2 (fun z => z hH) (Or.inr (Int32.not_le.mp hc21))) (by decide)
          | exact k1 1 (zE3_1 (zbn hc6)) (by decide)
  · refine zz_iconst (pc := 9) C (v := 1) (by decide) dX3_setMask_9 ?_
    refine zz_goto (pc := 10) C (tgt := 41) dX3_setMask_10 (by decide) ?_
    first
      | exact k0 (zE3_0 (fun z => z hH) (fun z => z.elim hc14 (fun u => absurd u (Int32.not_lt.mpr hc21))) (zb_eq.mp hc33))
      | exact k1 3 (zE3_3 (fun z => z hH) (fun z => z.elim hc14 (fun u => absurd u (Int32.not_lt.mpr hc21))) (zbp hc33)) (by decide)
      | exact k1 2 (zE3_2 (fun z => z hH) (Or.inl hc14)) (by decide)
      | exact k1 2 (zE3_2 (fun z => z hH) (Or.inr (Int32.not_le.mp hc21))) (by decide)
      | exact k1 1 (zE3_1 (zbn hc6)) (by decide)

set_option maxHeartbeats 4000000 in
set_option maxRecDepth 100000 in
theorem c_X3_send (l : Launch) (D : va_G) {B G : zG} {y : Nat} {ma : Nat → Nat} {r : zS} {σ : zS} {x s9 : Int32} {N : Nat} (hR : zModR B y ma r G) (hag : zAg r σ) (hring : zRing r []) (hrun : zE2 (¬ zHere σ x) (s9 < 0 ∨ ¬ s9 < 9) = 0 → zRunX N (σ, [(pn s9, pn x)])) : zMet D l yX3_send wsX3_send ({ frames := 7, cells := 0, slots := 0, locals := 163 } : Room) [.ref y, .int x, .int s9] G (fun v G9 => v = none ∧ zMod B y ma (if zE2 (¬ zHere σ x) (s9 < 0 ∨ ¬ s9 < 9) = 0 then zFin N (σ, [(pn s9, pn x)]) else σ) [] (zE2 (¬ zHere σ x) (s9 < 0 ∨ ¬ s9 < 9)) G9) := by
  refine zMet_of (cc := cX3_send) (maxL := 3) (ret := none) (by decide) rfl (Nat.le_of_ble_eq_true rfl) ?_
  intro p e s m args below meth c C hmn
  obtain ⟨t9, rfl⟩ : ∃ t9, r = zMix σ t9 := ⟨r, zMix_of hag⟩
  have k0 : zE2 (¬ zHere σ x) (s9 < 0 ∨ ¬ s9 < 9) = 0 → zV p l e ({ frames := 7, cells := 0, slots := 0, locals := 163 } : Room) s m args below meth c D (zA G s.heap.size) 0 0 (zZ below D G (fun v G9 => v = none ∧ zMod B y ma (if zE2 (¬ zHere σ x) (s9 < 0 ∨ ¬ s9 < 9) = 0 then zFin N (σ, [(pn s9, pn x)]) else σ) [] (zE2 (¬ zHere σ x) (s9 < 0 ∨ ¬ s9 < 9)) G9) args s ({ frames := 7, cells := 0, slots := 0, locals := 163 } : Room)) G 28 [some (.ref y), some (.int x), some (.int s9)] [.int 0, .ref y] := by
    intro hT
    have hH : zHere σ x := Classical.not_not.mp (zE2_z hT).1
    have hx := hH.at
    have hs : s9 = nI (pn s9) ∧ pn s9 < 9 := zs9 (fun z => (zE2_z hT).2 (Or.inl z)) (Classical.not_not.mp (fun z => (zE2_z hT).2 (Or.inr z)))
    have hr9 := hrun hT
    refine zz_callV (pc := 28) C (c_X3_fails l D hR (w := 0)) gX3_send_X3_fails rfl 1 (by decide +kernel) ⟨Nat.le_of_ble_eq_true rfl, Nat.le_of_ble_eq_true rfl⟩ hR.2.1 (ci := 3) rfl rfl rfl dX3_send_28 rfl (Nat.le_of_ble_eq_true rfl) rfl ⟨Nat.le_of_ble_eq_true rfl, Nat.le_of_ble_eq_true rfl⟩ ?_
    rintro v G9 ⟨rfl, hR⟩
    have hag : zAg (zu (zMix σ t9) 23 0 0) σ := zAg_off hag (by decide)
    have hring : zRing (zu (zMix σ t9) 23 0 0) [] := hring.ag rfl rfl rfl
    have h23 : (zu (zMix σ t9) 23 0 0) 23 0 = 0 := zu_self
    refine zz_if_eq (pc := 31) C (tgt := 35) dX3_send_31 (by decide) (fun hc31 => ?_) (fun hc31 => ?_)
    · refine zz_aload_n (pc := 35) C dX3_send_35 rfl ?_
      refine zz_iconst (pc := 36) C (v := 1) (by decide) dX3_send_36 ?_
      refine zz_iload_n (pc := 37) C dX3_send_37 rfl ?_
      refine zz_iload_n (pc := 38) C dX3_send_38 rfl ?_
      refine zz_callV (pc := 39) C (c_X3_appends l D hR (q := []) (ev := (pn s9, pn x)) hring (by decide) (zCode_s hx.1 hs.1 hs.2)) gX3_send_X3_appends rfl 3 (by decide +kernel) ⟨Nat.le_of_ble_eq_true rfl, Nat.le_of_ble_eq_true rfl⟩ hR.2.1 (ci := 3) rfl rfl rfl dX3_send_39 rfl (Nat.le_of_ble_eq_true rfl) rfl ⟨Nat.le_of_ble_eq_true rfl, Nat.le_of_ble_eq_true rfl⟩ ?_
      rintro v G9 ⟨rfl, r2, hR2, hag2, hk2, hring2⟩
      refine zz_aload_n (pc := 42) C dX3_send_42 rfl ?_
      refine zz_callV (pc := 43) C (c_xgoes l D hR2 (N := N) hr9 (hag2.tr hag) hring2) gX3_send_X3_goes rfl 0 (by decide +kernel) ⟨Nat.le_of_ble_eq_true rfl, Nat.le_of_ble_eq_true rfl⟩ hR2.2.1 (ci := 3) rfl rfl rfl dX3_send_43 rfl (Nat.le_of_ble_eq_true rfl) rfl ⟨Nat.le_of_ble_eq_true rfl, Nat.le_of_ble_eq_true rfl⟩ ?_
      rintro v G9 ⟨rfl, r3, hR3, hag3, h233, hring3⟩
      exact zz_return (pc := 46) C dX3_send_46 (Nat.le_refl _) (Nat.le_refl _) ⟨rfl, zMod.ok hT hR3 hag3 ((congrFun (h233.trans (hk2 23 (by decide))) 0).trans h23) hring3⟩
    · exact (z01 hc31).elim
  have k1 : ∀ w9 : Int32, zE2 (¬ zHere σ x) (s9 < 0 ∨ ¬ s9 < 9) = w9 → 0 < w9 → zV p l e ({ frames := 7, cells := 0, slots := 0, locals := 163 } : Room) s m args below meth c D (zA G s.heap.size) 0 0 (zZ below D G (fun v G9 => v = none ∧ zMod B y ma (if zE2 (¬ zHere σ x) (s9 < 0 ∨ ¬ s9 < 9) = 0 then zFin N (σ, [(pn s9, pn x)]) else σ) [] (zE2 (¬ zHere σ x) (s9 < 0 ∨ ¬ s9 < 9)) G9) args s ({ frames := 7, cells := 0, slots := 0, locals := 163 } : Room)) G 28 [some (.ref y), some (.int x), some (.int s9)] [.int w9, .ref y] := by
    intro w9 hT hw9
    refine zz_callV (pc := 28) C (c_X3_fails l D hR (w := w9)) gX3_send_X3_fails rfl 1 (by decide +kernel) ⟨Nat.le_of_ble_eq_true rfl, Nat.le_of_ble_eq_true rfl⟩ hR.2.1 (ci := 3) rfl rfl rfl dX3_send_28 rfl (Nat.le_of_ble_eq_true rfl) rfl ⟨Nat.le_of_ble_eq_true rfl, Nat.le_of_ble_eq_true rfl⟩ ?_
    rintro v G9 ⟨rfl, hR⟩
    have hag : zAg (zu (zMix σ t9) 23 0 w9) σ := zAg_off hag (by decide)
    have hring : zRing (zu (zMix σ t9) 23 0 w9) [] := hring.ag rfl rfl rfl
    have h23 : (zu (zMix σ t9) 23 0 w9) 23 0 = w9 := zu_self
    refine zz_if_eq (pc := 31) C (tgt := 35) dX3_send_31 (by decide) (fun hc31 => ?_) (fun hc31 => ?_)
    · exact (zw0 hc31 hw9).elim
    · exact zz_return (pc := 34) C dX3_send_34 (Nat.le_refl _) (Nat.le_refl _) ⟨rfl, zMod.no hT hw9 hR hag h23 hring⟩
  refine zz_aload_n (pc := 0) C dX3_send_0 rfl ?_
  refine zz_aload_n (pc := 1) C dX3_send_1 rfl ?_
  refine zz_iload_n (pc := 2) C dX3_send_2 rfl ?_
  refine zz_callV (pc := 3) C (c_X3_is l D hR (x := x)) gX3_send_X3_is rfl 1 (by decide +kernel) ⟨Nat.le_of_ble_eq_true rfl, Nat.le_of_ble_eq_true rfl⟩ hR.2.1 (ci := 3) rfl rfl rfl dX3_send_3 rfl (Nat.le_of_ble_eq_true rfl) rfl ⟨Nat.le_of_ble_eq_true rfl, Nat.le_of_ble_eq_true rfl⟩ ?_
  rintro v G9 ⟨rfl, rfl⟩
  refine zz_if_ne (pc := 6) C (tgt := 13) dX3_send_6 (by decide) (fun hc6 => ?_) (fun hc6 => ?_)
  · have hH : zHere σ x := zbp hc6
    refine zz_iload_n (pc := 13) C dX3_send_13 rfl ?_
    refine zz_if_lt (pc := 14) C (tgt := 23) dX3_send_14 (by decide) (fun hc14 => ?_) (fun hc14 => ?_)
    · refine zz_iconst (pc := 23) C (v := 2) (by decide) dX3_send_23 ?_
      refine zz_goto (pc := 24) C (tgt := 28) dX3_send_24 (by decide) ?_
      first
        | exact k0 (zE2_0 (fun z => z hH) (fun z => z.elim hc14 (fun u => u hc20)))
        | exact k1 2 (zE2_2 (fun z => z hH) (Or.inl hc14)) (by decide)
        | exact k1 2 (zE2_2 (fun z => z hH) (Or.inr hc20)) (by decide)
        | exact k1 1 (zE2_1 (zbn hc6)) (by decide)
    · refine zz_iload_n (pc := 17) C dX3_send_17 rfl ?_
      refine zz_bipush (pc := 18) C (v := 9) (by decide) dX3_send_18 ?_
      refine zz_icmp_lt (pc := 20) C (tgt := 27) dX3_send_20 (by decide) (fun hc20 => ?_) (fun hc20 => ?_)
      · refine zz_iconst (pc := 27) C (v := 0) (by decide) dX3_send_27 ?_
        first
          | exact k0 (zE2_0 (fun z => z hH) (fun z => z.elim hc14 (fun u => u hc20)))
          | exact k1 2 (zE2_2 (fun z => z hH) (Or.inl hc14)) (by decide)
          | exact k1 2 (zE2_2 (fun z => z hH) (Or.inr hc20)) (by decide)
          | exact k1 1 (zE2_1 (zbn hc6)) (by decide)
      · refine zz_iconst (pc := 23) C (v := 2) (by decide) dX3_send_23 ?_
        refine zz_goto (pc := 24) C (tgt := 28) dX3_send_24 (by decide) ?_
        first
          | exact k0 (zE2_0 (fun z => z hH) (fun z => z.elim hc14 (fun u => u hc20)))
          | exact k1 2 (zE2_2 (fun z => z hH) (Or.inl hc14)) (by decide)
          | exact k1 2 (zE2_2 (fun z => z hH) (Or.inr hc20)) (by decide)
          | exact k1 1 (zE2_1 (zbn hc6)) (by decide)
  · refine zz_iconst (pc := 9) C (v := 1) (by decide) dX3_send_9 ?_
    refine zz_goto (pc := 10) C (tgt := 28) dX3_send_10 (by decide) ?_
    first
      | exact k0 (zE2_0 (fun z => z hH) (fun z => z.elim hc14 (fun u => u hc20)))
      | exact k1 2 (zE2_2 (fun z => z hH) (Or.inl hc14)) (by decide)
      | exact k1 2 (zE2_2 (fun z => z hH) (Or.inr hc20)) (by decide)
      | exact k1 1 (zE2_1 (zbn hc6)) (by decide)

set_option maxHeartbeats 4000000 in
set_option maxRecDepth 100000 in
theorem c_X3_sendToGroup (l : Launch) (D : va_G) {B G : zG} {y : Nat} {ma : Nat → Nat} {r : zS} {σ : zS} {g9 s9 : Int32} {N : Nat} (hR : zModR B y ma r G) (hag : zAg r σ) (hring : zRing r []) (h00 : σ 0 0 = 0) (hrun : zE1 (g9 < 1 ∨ (40 : Int32) < g9 ∨ s9 < 0 ∨ ¬ s9 < 9) = 0 → zRunX N (σ, (zSends σ g9 (pn s9) 41))) : zMet D l yX3_sendToGroup wsX3_sendToGroup ({ frames := 7, cells := 0, slots := 0, locals := 163 } : Room) [.ref y, .int g9, .int s9] G (fun v G9 => v = some (.int (if zE1 (g9 < 1 ∨ (40 : Int32) < g9 ∨ s9 < 0 ∨ ¬ s9 < 9) = 0 then nI (zMemL σ g9 41).length else 0)) ∧ zMod B y ma (if zE1 (g9 < 1 ∨ (40 : Int32) < g9 ∨ s9 < 0 ∨ ¬ s9 < 9) = 0 then zFin N (σ, (zSends σ g9 (pn s9) 41)) else σ) [] (zE1 (g9 < 1 ∨ (40 : Int32) < g9 ∨ s9 < 0 ∨ ¬ s9 < 9)) G9) := by
  refine zMet_of (cc := cX3_sendToGroup) (maxL := 4) (ret := (some .int)) (by decide) rfl (Nat.le_of_ble_eq_true rfl) ?_
  intro p e s m args below meth c C hmn
  obtain ⟨t9, rfl⟩ : ∃ t9, r = zMix σ t9 := ⟨r, zMix_of hag⟩
  have k0 : zE1 (g9 < 1 ∨ (40 : Int32) < g9 ∨ s9 < 0 ∨ ¬ s9 < 9) = 0 → zV p l e ({ frames := 7, cells := 0, slots := 0, locals := 163 } : Room) s m args below meth c D (zA G s.heap.size) 0 0 (zZ below D G (fun v G9 => v = some (.int (if zE1 (g9 < 1 ∨ (40 : Int32) < g9 ∨ s9 < 0 ∨ ¬ s9 < 9) = 0 then nI (zMemL σ g9 41).length else 0)) ∧ zMod B y ma (if zE1 (g9 < 1 ∨ (40 : Int32) < g9 ∨ s9 < 0 ∨ ¬ s9 < 9) = 0 then zFin N (σ, (zSends σ g9 (pn s9) 41)) else σ) [] (zE1 (g9 < 1 ∨ (40 : Int32) < g9 ∨ s9 < 0 ∨ ¬ s9 < 9)) G9) args s ({ frames := 7, cells := 0, slots := 0, locals := 163 } : Room)) G 27 [some (.ref y), some (.int g9), some (.int s9), none] [.int 0, .ref y] := by
    intro hT
    have hz := zE1_z hT
    have hs : s9 = nI (pn s9) ∧ pn s9 < 9 := zs9 (fun z => hz (Or.inr (Or.inr (Or.inl z)))) (Classical.not_not.mp (fun z => hz (Or.inr (Or.inr (Or.inr z)))))
    have hr9 := hrun hT
    refine zz_callV (pc := 27) C (c_X3_fails l D hR (w := 0)) gX3_sendToGroup_X3_fails rfl 1 (by decide +kernel) ⟨Nat.le_of_ble_eq_true rfl, Nat.le_of_ble_eq_true rfl⟩ hR.2.1 (ci := 3) rfl rfl rfl dX3_sendToGroup_27 rfl (Nat.le_of_ble_eq_true rfl) rfl ⟨Nat.le_of_ble_eq_true rfl, Nat.le_of_ble_eq_true rfl⟩ ?_
    rintro v G9 ⟨rfl, hR⟩
    have hag : zAg (zu (zMix σ t9) 23 0 0) σ := zAg_off hag (by decide)
    have hring : zRing (zu (zMix σ t9) 23 0 0) [] := hring.ag rfl rfl rfl
    have h23 : (zu (zMix σ t9) 23 0 0) 23 0 = 0 := zu_self
    refine zz_if_eq (pc := 30) C (tgt := 35) dX3_sendToGroup_30 (by decide) (fun hc30 => ?_) (fun hc30 => ?_)
    · refine zz_aload_n (pc := 35) C dX3_sendToGroup_35 rfl ?_
      refine zz_iload_n (pc := 36) C dX3_sendToGroup_36 rfl ?_
      refine zz_iload_n (pc := 37) C dX3_sendToGroup_37 rfl ?_
      refine zz_callV (pc := 38) C (c_msends l D hR (σ := σ) (q := []) (g := g9) (s := s9) hag h00 hs hring (by decide)) gX3_sendToGroup_X3_sends rfl 2 (by decide +kernel) ⟨Nat.le_of_ble_eq_true rfl, Nat.le_of_ble_eq_true rfl⟩ hR.2.1 (ci := 3) rfl rfl rfl dX3_sendToGroup_38 rfl (Nat.le_of_ble_eq_true rfl) rfl ⟨Nat.le_of_ble_eq_true rfl, Nat.le_of_ble_eq_true rfl⟩ ?_
      rintro v G9 ⟨rfl, r2, hR2, hag2, h232, hring2⟩
      refine zz_istore_n (pc := 41) C dX3_sendToGroup_41 (Nat.le_of_ble_eq_true rfl) ?_
      refine zz_aload_n (pc := 42) C dX3_sendToGroup_42 rfl ?_
      refine zz_callV (pc := 43) C (c_xgoes l D hR2 (N := N) hr9 hag2 hring2) gX3_sendToGroup_X3_goes rfl 0 (by decide +kernel) ⟨Nat.le_of_ble_eq_true rfl, Nat.le_of_ble_eq_true rfl⟩ hR2.2.1 (ci := 3) rfl rfl rfl dX3_sendToGroup_43 rfl (Nat.le_of_ble_eq_true rfl) rfl ⟨Nat.le_of_ble_eq_true rfl, Nat.le_of_ble_eq_true rfl⟩ ?_
      rintro v G9 ⟨rfl, r3, hR3, hag3, h233, hring3⟩
      refine zz_iload_n (pc := 46) C dX3_sendToGroup_46 rfl ?_
      exact zz_ireturn (pc := 47) C dX3_sendToGroup_47 rfl (Nat.le_refl _) (Nat.le_refl _) ⟨zvok hT (rfl), zMod.ok hT hR3 hag3 ((congrFun (h233.trans h232) 0).trans h23) hring3⟩
    · exact (z01 hc30).elim
  have k1 : ∀ w9 : Int32, zE1 (g9 < 1 ∨ (40 : Int32) < g9 ∨ s9 < 0 ∨ ¬ s9 < 9) = w9 → 0 < w9 → zV p l e ({ frames := 7, cells := 0, slots := 0, locals := 163 } : Room) s m args below meth c D (zA G s.heap.size) 0 0 (zZ below D G (fun v G9 => v = some (.int (if zE1 (g9 < 1 ∨ (40 : Int32) < g9 ∨ s9 < 0 ∨ ¬ s9 < 9) = 0 then nI (zMemL σ g9 41).length else 0)) ∧ zMod B y ma (if zE1 (g9 < 1 ∨ (40 : Int32) < g9 ∨ s9 < 0 ∨ ¬ s9 < 9) = 0 then zFin N (σ, (zSends σ g9 (pn s9) 41)) else σ) [] (zE1 (g9 < 1 ∨ (40 : Int32) < g9 ∨ s9 < 0 ∨ ¬ s9 < 9)) G9) args s ({ frames := 7, cells := 0, slots := 0, locals := 163 } : Room)) G 27 [some (.ref y), some (.int g9), some (.int s9), none] [.int w9, .ref y] := by
    intro w9 hT hw9
    refine zz_callV (pc := 27) C (c_X3_fails l D hR (w := w9)) gX3_sendToGroup_X3_fails rfl 1 (by decide +kernel) ⟨Nat.le_of_ble_eq_true rfl, Nat.le_of_ble_eq_true rfl⟩ hR.2.1 (ci := 3) rfl rfl rfl dX3_sendToGroup_27 rfl (Nat.le_of_ble_eq_true rfl) rfl ⟨Nat.le_of_ble_eq_true rfl, Nat.le_of_ble_eq_true rfl⟩ ?_
    rintro v G9 ⟨rfl, hR⟩
    have hag : zAg (zu (zMix σ t9) 23 0 w9) σ := zAg_off hag (by decide)
    have hring : zRing (zu (zMix σ t9) 23 0 w9) [] := hring.ag rfl rfl rfl
    have h23 : (zu (zMix σ t9) 23 0 w9) 23 0 = w9 := zu_self
    refine zz_if_eq (pc := 30) C (tgt := 35) dX3_sendToGroup_30 (by decide) (fun hc30 => ?_) (fun hc30 => ?_)
    · exact (zw0 hc30 hw9).elim
    · refine zz_iconst (pc := 33) C (v := 0) (by decide) dX3_sendToGroup_33 ?_
      exact zz_ireturn (pc := 34) C dX3_sendToGroup_34 (by first | rfl | decide) (Nat.le_refl _) (Nat.le_refl _) ⟨zvno hT hw9, zMod.no hT hw9 hR hag h23 hring⟩
  refine zz_aload_n (pc := 0) C dX3_sendToGroup_0 rfl ?_
  refine zz_iload_n (pc := 1) C dX3_sendToGroup_1 rfl ?_
  refine zz_iconst (pc := 2) C (v := 1) (by decide) dX3_sendToGroup_2 ?_
  refine zz_icmp_lt (pc := 3) C (tgt := 22) dX3_sendToGroup_3 (by decide) (fun hc3 => ?_) (fun hc3 => ?_)
  · refine zz_iconst (pc := 22) C (v := 1) (by decide) dX3_sendToGroup_22 ?_
    refine zz_goto (pc := 23) C (tgt := 27) dX3_sendToGroup_23 (by decide) ?_
    first
      | exact k0 (zE1_0 (fun z => z.elim hc3 (fun z => z.elim hc9 (fun z => z.elim hc13 (fun z => z hc19)))))
      | exact k1 1 (zE1_1 (Or.inl hc3)) (by decide)
      | exact k1 1 (zE1_1 (Or.inr (Or.inl hc9))) (by decide)
      | exact k1 1 (zE1_1 (Or.inr (Or.inr (Or.inl hc13)))) (by decide)
      | exact k1 1 (zE1_1 (Or.inr (Or.inr (Or.inr hc19)))) (by decide)
  · refine zz_iload_n (pc := 6) C dX3_sendToGroup_6 rfl ?_
    refine zz_bipush (pc := 7) C (v := 40) (by decide) dX3_sendToGroup_7 ?_
    refine zz_icmp_gt (pc := 9) C (tgt := 22) dX3_sendToGroup_9 (by decide) (fun hc9 => ?_) (fun hc9 => ?_)
    · refine zz_iconst (pc := 22) C (v := 1) (by decide) dX3_sendToGroup_22 ?_
      refine zz_goto (pc := 23) C (tgt := 27) dX3_sendToGroup_23 (by decide) ?_
      first
        | exact k0 (zE1_0 (fun z => z.elim hc3 (fun z => z.elim hc9 (fun z => z.elim hc13 (fun z => z hc19)))))
        | exact k1 1 (zE1_1 (Or.inl hc3)) (by decide)
        | exact k1 1 (zE1_1 (Or.inr (Or.inl hc9))) (by decide)
        | exact k1 1 (zE1_1 (Or.inr (Or.inr (Or.inl hc13)))) (by decide)
        | exact k1 1 (zE1_1 (Or.inr (Or.inr (Or.inr hc19)))) (by decide)
    · refine zz_iload_n (pc := 12) C dX3_sendToGroup_12 rfl ?_
      refine zz_if_lt (pc := 13) C (tgt := 22) dX3_sendToGroup_13 (by decide) (fun hc13 => ?_) (fun hc13 => ?_)
      · refine zz_iconst (pc := 22) C (v := 1) (by decide) dX3_sendToGroup_22 ?_
        refine zz_goto (pc := 23) C (tgt := 27) dX3_sendToGroup_23 (by decide) ?_
        first
          | exact k0 (zE1_0 (fun z => z.elim hc3 (fun z => z.elim hc9 (fun z => z.elim hc13 (fun z => z hc19)))))
          | exact k1 1 (zE1_1 (Or.inl hc3)) (by decide)
          | exact k1 1 (zE1_1 (Or.inr (Or.inl hc9))) (by decide)
          | exact k1 1 (zE1_1 (Or.inr (Or.inr (Or.inl hc13)))) (by decide)
          | exact k1 1 (zE1_1 (Or.inr (Or.inr (Or.inr hc19)))) (by decide)
      · refine zz_iload_n (pc := 16) C dX3_sendToGroup_16 rfl ?_
        refine zz_bipush (pc := 17) C (v := 9) (by decide) dX3_sendToGroup_17 ?_
        refine zz_icmp_lt (pc := 19) C (tgt := 26) dX3_sendToGroup_19 (by decide) (fun hc19 => ?_) (fun hc19 => ?_)
        · refine zz_iconst (pc := 26) C (v := 0) (by decide) dX3_sendToGroup_26 ?_
          first
            | exact k0 (zE1_0 (fun z => z.elim hc3 (fun z => z.elim hc9 (fun z => z.elim hc13 (fun z => z hc19)))))
            | exact k1 1 (zE1_1 (Or.inl hc3)) (by decide)
            | exact k1 1 (zE1_1 (Or.inr (Or.inl hc9))) (by decide)
            | exact k1 1 (zE1_1 (Or.inr (Or.inr (Or.inl hc13)))) (by decide)
            | exact k1 1 (zE1_1 (Or.inr (Or.inr (Or.inr hc19)))) (by decide)
        · refine zz_iconst (pc := 22) C (v := 1) (by decide) dX3_sendToGroup_22 ?_
          refine zz_goto (pc := 23) C (tgt := 27) dX3_sendToGroup_23 (by decide) ?_
          first
            | exact k0 (zE1_0 (fun z => z.elim hc3 (fun z => z.elim hc9 (fun z => z.elim hc13 (fun z => z hc19)))))
            | exact k1 1 (zE1_1 (Or.inl hc3)) (by decide)
            | exact k1 1 (zE1_1 (Or.inr (Or.inl hc9))) (by decide)
            | exact k1 1 (zE1_1 (Or.inr (Or.inr (Or.inl hc13)))) (by decide)
            | exact k1 1 (zE1_1 (Or.inr (Or.inr (Or.inr hc19)))) (by decide)
theorem fl_X3_type_74 : Cond.fieldLink RX3 74 "SignalpostModel" "terminal" "I" ∈ wsX3_type := by decide +kernel
theorem fl_X3_type_78 : Cond.fieldLink RX3 78 "SignalpostModel" "foreground" "I" ∈ wsX3_type := by decide +kernel
theorem in_X3_type_X3 : ∀ w ∈ u_ws RX3 TX3 29, w ∈ wsX3_type := by decide +kernel
set_option maxHeartbeats 4000000 in
set_option maxRecDepth 100000 in
theorem c_X3_type (l : Launch) (D : va_G) {B G : zG} {y : Nat} {ma : Nat → Nat} {r : zS} {σ : zS} {f9 s9 : Int32} {N : Nat} (hR : zModR B y ma r G) (hag : zAg r σ) (hring : zRing r []) (h00 : σ 0 0 = 0) (hsg : (f9 = 0 ∧ s9 = 1) ∨ (¬ f9 = 0 ∧ s9 = 6)) (hrun : zE1 (σ 21 0 = -1) = 0 → zRunX N (σ, (zSends σ (σ 22 0) (pn s9) 41))) : zMet D l yX3_type wsX3_type ({ frames := 7, cells := 0, slots := 0, locals := 163 } : Room) [.ref y, .int f9] G (fun v G9 => v = some (.int (if zE1 (σ 21 0 = -1) = 0 then nI (zMemL σ (σ 22 0) 41).length else 0)) ∧ zMod B y ma (if zE1 (σ 21 0 = -1) = 0 then zFin N (σ, (zSends σ (σ 22 0) (pn s9) 41)) else σ) [] (zE1 (σ 21 0 = -1)) G9) := by
  refine zMet_of (cc := cX3_type) (maxL := 3) (ret := (some .int)) (by decide) rfl (Nat.le_of_ble_eq_true rfl) ?_
  intro p e s m args below meth c C hmn
  obtain ⟨t9, rfl⟩ : ∃ t9, r = zMix σ t9 := ⟨r, zMix_of hag⟩
  have k0 : zE1 (σ 21 0 = -1) = 0 → zV p l e ({ frames := 7, cells := 0, slots := 0, locals := 163 } : Room) s m args below meth c D (zA G s.heap.size) 0 0 (zZ below D G (fun v G9 => v = some (.int (if zE1 (σ 21 0 = -1) = 0 then nI (zMemL σ (σ 22 0) 41).length else 0)) ∧ zMod B y ma (if zE1 (σ 21 0 = -1) = 0 then zFin N (σ, (zSends σ (σ 22 0) (pn s9) 41)) else σ) [] (zE1 (σ 21 0 = -1)) G9) args s ({ frames := 7, cells := 0, slots := 0, locals := 163 } : Room)) G 14 [some (.ref y), some (.int f9), none] [.int 0, .ref y] := by
    intro hT
    have hr9 := hrun hT
    rcases hsg with ⟨rfl, rfl⟩ | ⟨hf9, rfl⟩
    · skip
      refine zz_callV (pc := 14) C (c_X3_fails l D hR (w := 0)) gX3_type_X3_fails rfl 1 (by decide +kernel) ⟨Nat.le_of_ble_eq_true rfl, Nat.le_of_ble_eq_true rfl⟩ hR.2.1 (ci := 3) rfl rfl rfl dX3_type_14 rfl (Nat.le_of_ble_eq_true rfl) rfl ⟨Nat.le_of_ble_eq_true rfl, Nat.le_of_ble_eq_true rfl⟩ ?_
      rintro v G9 ⟨rfl, hR⟩
      have hag : zAg (zu (zMix σ t9) 23 0 0) σ := zAg_off hag (by decide)
      have hring : zRing (zu (zMix σ t9) 23 0 0) [] := hring.ag rfl rfl rfl
      have h23 : (zu (zMix σ t9) 23 0 0) 23 0 = 0 := zu_self
      refine zz_if_eq (pc := 17) C (tgt := 22) dX3_type_17 (by decide) (fun hc17 => ?_) (fun hc17 => ?_)
      · refine zz_aload_n (pc := 22) C dX3_type_22 rfl ?_
        refine zz_aload_n (pc := 23) C dX3_type_23 rfl ?_
        refine zz_get (pc := 24) C in_X3_type_X3 (ci := 3) rfl 22 (by decide) (fl_X3_type_78) rfl dX3_type_24 hR.2.1 rfl ?_
        refine zz_iload_n (pc := 27) C dX3_type_27 rfl ?_
        refine zz_if_eq (pc := 28) C (tgt := 36) dX3_type_28 (by decide) (fun hc28 => ?_) (fun hc28 => ?_)
        · refine zz_iconst (pc := 36) C (v := 1) (by decide) dX3_type_36 ?_
          refine zz_callV (pc := 37) C (c_msends l D hR (σ := σ) (q := []) (g := σ 22 0) (s := 1) hag h00 (by decide) hring (by decide)) gX3_type_X3_sends rfl 2 (by decide +kernel) ⟨Nat.le_of_ble_eq_true rfl, Nat.le_of_ble_eq_true rfl⟩ hR.2.1 (ci := 3) rfl rfl rfl dX3_type_37 rfl (Nat.le_of_ble_eq_true rfl) rfl ⟨Nat.le_of_ble_eq_true rfl, Nat.le_of_ble_eq_true rfl⟩ ?_
          rintro v G9 ⟨rfl, r2, hR2, hag2, h232, hring2⟩
          refine zz_istore_n (pc := 40) C dX3_type_40 (Nat.le_of_ble_eq_true rfl) ?_
          refine zz_aload_n (pc := 41) C dX3_type_41 rfl ?_
          refine zz_callV (pc := 42) C (c_xgoes l D hR2 (N := N) hr9 hag2 hring2) gX3_type_X3_goes rfl 0 (by decide +kernel) ⟨Nat.le_of_ble_eq_true rfl, Nat.le_of_ble_eq_true rfl⟩ hR2.2.1 (ci := 3) rfl rfl rfl dX3_type_42 rfl (Nat.le_of_ble_eq_true rfl) rfl ⟨Nat.le_of_ble_eq_true rfl, Nat.le_of_ble_eq_true rfl⟩ ?_
          rintro v G9 ⟨rfl, r3, hR3, hag3, h233, hring3⟩
          refine zz_iload_n (pc := 45) C dX3_type_45 rfl ?_
          exact zz_ireturn (pc := 46) C dX3_type_46 rfl (Nat.le_refl _) (Nat.le_refl _) ⟨zvok hT (rfl), zMod.ok hT hR3 hag3 ((congrFun (h233.trans h232) 0).trans h23) hring3⟩
        · exact absurd rfl hc28
      · exact (z01 hc17).elim
    · skip
      refine zz_callV (pc := 14) C (c_X3_fails l D hR (w := 0)) gX3_type_X3_fails rfl 1 (by decide +kernel) ⟨Nat.le_of_ble_eq_true rfl, Nat.le_of_ble_eq_true rfl⟩ hR.2.1 (ci := 3) rfl rfl rfl dX3_type_14 rfl (Nat.le_of_ble_eq_true rfl) rfl ⟨Nat.le_of_ble_eq_true rfl, Nat.le_of_ble_eq_true rfl⟩ ?_
      rintro v G9 ⟨rfl, hR⟩
      have hag : zAg (zu (zMix σ t9) 23 0 0) σ := zAg_off hag (by decide)
      have hring : zRing (zu (zMix σ t9) 23 0 0) [] := hring.ag rfl rfl rfl
      have h23 : (zu (zMix σ t9) 23 0 0) 23 0 = 0 := zu_self
      refine zz_if_eq (pc := 17) C (tgt := 22) dX3_type_17 (by decide) (fun hc17 => ?_) (fun hc17 => ?_)
      · refine zz_aload_n (pc := 22) C dX3_type_22 rfl ?_
        refine zz_aload_n (pc := 23) C dX3_type_23 rfl ?_
        refine zz_get (pc := 24) C in_X3_type_X3 (ci := 3) rfl 22 (by decide) (fl_X3_type_78) rfl dX3_type_24 hR.2.1 rfl ?_
        refine zz_iload_n (pc := 27) C dX3_type_27 rfl ?_
        refine zz_if_eq (pc := 28) C (tgt := 36) dX3_type_28 (by decide) (fun hc28 => ?_) (fun hc28 => ?_)
        · exact absurd hc28 hf9
        · refine zz_bipush (pc := 31) C (v := 6) (by decide) dX3_type_31 ?_
          refine zz_goto (pc := 33) C (tgt := 37) dX3_type_33 (by decide) ?_
          refine zz_callV (pc := 37) C (c_msends l D hR (σ := σ) (q := []) (g := σ 22 0) (s := 6) hag h00 (by decide) hring (by decide)) gX3_type_X3_sends rfl 2 (by decide +kernel) ⟨Nat.le_of_ble_eq_true rfl, Nat.le_of_ble_eq_true rfl⟩ hR.2.1 (ci := 3) rfl rfl rfl dX3_type_37 rfl (Nat.le_of_ble_eq_true rfl) rfl ⟨Nat.le_of_ble_eq_true rfl, Nat.le_of_ble_eq_true rfl⟩ ?_
          rintro v G9 ⟨rfl, r2, hR2, hag2, h232, hring2⟩
          refine zz_istore_n (pc := 40) C dX3_type_40 (Nat.le_of_ble_eq_true rfl) ?_
          refine zz_aload_n (pc := 41) C dX3_type_41 rfl ?_
          refine zz_callV (pc := 42) C (c_xgoes l D hR2 (N := N) hr9 hag2 hring2) gX3_type_X3_goes rfl 0 (by decide +kernel) ⟨Nat.le_of_ble_eq_true rfl, Nat.le_of_ble_eq_true rfl⟩ hR2.2.1 (ci := 3) rfl rfl rfl dX3_type_42 rfl (Nat.le_of_ble_eq_true rfl) rfl ⟨Nat.le_of_ble_eq_true rfl, Nat.le_of_ble_eq_true rfl⟩ ?_
          rintro v G9 ⟨rfl, r3, hR3, hag3, h233, hring3⟩
          refine zz_iload_n (pc := 45) C dX3_type_45 rfl ?_
          exact zz_ireturn (pc := 46) C dX3_type_46 rfl (Nat.le_refl _) (Nat.le_refl _) ⟨zvok hT (rfl), zMod.ok hT hR3 hag3 ((congrFun (h233.trans h232) 0).trans h23) hring3⟩
      · exact (z01 hc17).elim
  have k1 : ∀ w9 : Int32, zE1 (σ 21 0 = -1) = w9 → 0 < w9 → zV p l e ({ frames := 7, cells := 0, slots := 0, locals := 163 } : Room) s m args below meth c D (zA G s.heap.size) 0 0 (zZ below D G (fun v G9 => v = some (.int (if zE1 (σ 21 0 = -1) = 0 then nI (zMemL σ (σ 22 0) 41).length else 0)) ∧ zMod B y ma (if zE1 (σ 21 0 = -1) = 0 then zFin N (σ, (zSends σ (σ 22 0) (pn s9) 41)) else σ) [] (zE1 (σ 21 0 = -1)) G9) args s ({ frames := 7, cells := 0, slots := 0, locals := 163 } : Room)) G 14 [some (.ref y), some (.int f9), none] [.int w9, .ref y] := by
    intro w9 hT hw9
    refine zz_callV (pc := 14) C (c_X3_fails l D hR (w := w9)) gX3_type_X3_fails rfl 1 (by decide +kernel) ⟨Nat.le_of_ble_eq_true rfl, Nat.le_of_ble_eq_true rfl⟩ hR.2.1 (ci := 3) rfl rfl rfl dX3_type_14 rfl (Nat.le_of_ble_eq_true rfl) rfl ⟨Nat.le_of_ble_eq_true rfl, Nat.le_of_ble_eq_true rfl⟩ ?_
    rintro v G9 ⟨rfl, hR⟩
    have hag : zAg (zu (zMix σ t9) 23 0 w9) σ := zAg_off hag (by decide)
    have hring : zRing (zu (zMix σ t9) 23 0 w9) [] := hring.ag rfl rfl rfl
    have h23 : (zu (zMix σ t9) 23 0 w9) 23 0 = w9 := zu_self
    refine zz_if_eq (pc := 17) C (tgt := 22) dX3_type_17 (by decide) (fun hc17 => ?_) (fun hc17 => ?_)
    · exact (zw0 hc17 hw9).elim
    · refine zz_iconst (pc := 20) C (v := 0) (by decide) dX3_type_20 ?_
      exact zz_ireturn (pc := 21) C dX3_type_21 (by first | rfl | decide) (Nat.le_refl _) (Nat.le_refl _) ⟨zvno hT hw9, zMod.no hT hw9 hR hag h23 hring⟩
  refine zz_aload_n (pc := 0) C dX3_type_0 rfl ?_
  refine zz_aload_n (pc := 1) C dX3_type_1 rfl ?_
  refine zz_get (pc := 2) C in_X3_type_X3 (ci := 3) rfl 21 (by decide) (fl_X3_type_74) rfl dX3_type_2 hR.2.1 rfl ?_
  refine zz_iconst (pc := 5) C (v := -1) (by decide) dX3_type_5 ?_
  refine zz_icmp_ne (pc := 6) C (tgt := 13) dX3_type_6 (by decide) (fun hc6 => ?_) (fun hc6 => ?_)
  · refine zz_iconst (pc := 13) C (v := 0) (by decide) dX3_type_13 ?_
    first
      | exact k0 (zE1_0 hc6)
      | exact k1 1 (zE1_1 (Classical.not_not.mp hc6)) (by decide)
  · refine zz_iconst (pc := 9) C (v := 1) (by decide) dX3_type_9 ?_
    refine zz_goto (pc := 10) C (tgt := 14) dX3_type_10 (by decide) ?_
    first
      | exact k0 (zE1_0 hc6)
      | exact k1 1 (zE1_1 (Classical.not_not.mp hc6)) (by decide)
theorem fl_X3_hangUp_74 : Cond.fieldLink RX3 74 "SignalpostModel" "terminal" "I" ∈ wsX3_hangUp := by decide +kernel
theorem fl_X3_hangUp_78 : Cond.fieldLink RX3 78 "SignalpostModel" "foreground" "I" ∈ wsX3_hangUp := by decide +kernel
theorem in_X3_hangUp_X3 : ∀ w ∈ u_ws RX3 TX3 29, w ∈ wsX3_hangUp := by decide +kernel
set_option maxHeartbeats 4000000 in
set_option maxRecDepth 100000 in
theorem c_X3_hangUp (l : Launch) (D : va_G) {B G : zG} {y : Nat} {ma : Nat → Nat} {r : zS} {σ : zS} {N : Nat} (hR : zModR B y ma r G) (hag : zAg r σ) (hring : zRing r []) (h21 : σ 21 0 = -1 ∨ ∃ g, σ 21 0 = nI g ∧ 1 ≤ g ∧ g < 41) (hrun : zE1 (σ 21 0 = -1) = 0 → zRunX N (zFreeT σ, [(0, pn (σ 21 0))])) : zMet D l yX3_hangUp wsX3_hangUp ({ frames := 7, cells := 0, slots := 0, locals := 163 } : Room) [.ref y] G (fun v G9 => v = some (.int (if zE1 (σ 21 0 = -1) = 0 then σ 21 0 else 0)) ∧ zMod B y ma (if zE1 (σ 21 0 = -1) = 0 then zFin N (zFreeT σ, [(0, pn (σ 21 0))]) else σ) [] (zE1 (σ 21 0 = -1)) G9) := by
  refine zMet_of (cc := cX3_hangUp) (maxL := 2) (ret := (some .int)) (by decide) rfl (Nat.le_of_ble_eq_true rfl) ?_
  intro p e s m args below meth c C hmn
  obtain ⟨t9, rfl⟩ : ∃ t9, r = zMix σ t9 := ⟨r, zMix_of hag⟩
  have k0 : zE1 (σ 21 0 = -1) = 0 → zV p l e ({ frames := 7, cells := 0, slots := 0, locals := 163 } : Room) s m args below meth c D (zA G s.heap.size) 0 0 (zZ below D G (fun v G9 => v = some (.int (if zE1 (σ 21 0 = -1) = 0 then σ 21 0 else 0)) ∧ zMod B y ma (if zE1 (σ 21 0 = -1) = 0 then zFin N (zFreeT σ, [(0, pn (σ 21 0))]) else σ) [] (zE1 (σ 21 0 = -1)) G9) args s ({ frames := 7, cells := 0, slots := 0, locals := 163 } : Room)) G 14 [some (.ref y), none] [.int 0, .ref y] := by
    intro hT
    have hr9 := hrun hT
    have h21x : σ 21 0 = nI (pn (σ 21 0)) ∧ pn (σ 21 0) < 41 := by
      obtain ⟨g, h1, h2, h3⟩ := h21.resolve_left (zE1_z hT)
      rw [h1, show pn (nI g) = g from nI_clamp (by omega)]
      exact ⟨rfl, h3⟩
    refine zz_callV (pc := 14) C (c_X3_fails l D hR (w := 0)) gX3_hangUp_X3_fails rfl 1 (by decide +kernel) ⟨Nat.le_of_ble_eq_true rfl, Nat.le_of_ble_eq_true rfl⟩ hR.2.1 (ci := 3) rfl rfl rfl dX3_hangUp_14 rfl (Nat.le_of_ble_eq_true rfl) rfl ⟨Nat.le_of_ble_eq_true rfl, Nat.le_of_ble_eq_true rfl⟩ ?_
    rintro v G9 ⟨rfl, hR⟩
    have hag : zAg (zu (zMix σ t9) 23 0 0) σ := zAg_off hag (by decide)
    have hring : zRing (zu (zMix σ t9) 23 0 0) [] := hring.ag rfl rfl rfl
    have h23 : (zu (zMix σ t9) 23 0 0) 23 0 = 0 := zu_self
    refine zz_if_eq (pc := 17) C (tgt := 22) dX3_hangUp_17 (by decide) (fun hc17 => ?_) (fun hc17 => ?_)
    · refine zz_aload_n (pc := 22) C dX3_hangUp_22 rfl ?_
      refine zz_get (pc := 23) C in_X3_hangUp_X3 (ci := 3) rfl 21 (by decide) (fl_X3_hangUp_74) rfl dX3_hangUp_23 hR.2.1 rfl ?_
      refine zz_istore_n (pc := 26) C dX3_hangUp_26 (Nat.le_of_ble_eq_true rfl) ?_
      refine zz_aload_n (pc := 27) C dX3_hangUp_27 rfl ?_
      refine zz_iconst (pc := 28) C (v := -1) (by decide) dX3_hangUp_28 ?_
      refine zz_mput (pc := 29) C in_X3_hangUp_X3 hR 21 (by decide) fl_X3_hangUp_74 dX3_hangUp_29 (fun G hR => ?_)
      refine zz_aload_n (pc := 32) C dX3_hangUp_32 rfl ?_
      refine zz_iconst (pc := 33) C (v := -1) (by decide) dX3_hangUp_33 ?_
      refine zz_mput (pc := 34) C in_X3_hangUp_X3 hR 22 (by decide) fl_X3_hangUp_78 dX3_hangUp_34 (fun G hR => ?_)
      refine zz_aload_n (pc := 37) C dX3_hangUp_37 rfl ?_
      refine zz_iconst (pc := 38) C (v := 1) (by decide) dX3_hangUp_38 ?_
      refine zz_iconst (pc := 39) C (v := 0) (by decide) dX3_hangUp_39 ?_
      refine zz_iload_n (pc := 40) C dX3_hangUp_40 rfl ?_
      refine zz_callV (pc := 41) C (c_X3_appends l D hR (q := []) (ev := (0, pn (σ 21 0))) (hring.ag rfl rfl rfl) (by decide) (zCode_s h21x.1 rfl (by decide))) gX3_hangUp_X3_appends rfl 3 (by decide +kernel) ⟨Nat.le_of_ble_eq_true rfl, Nat.le_of_ble_eq_true rfl⟩ hR.2.1 (ci := 3) rfl rfl rfl dX3_hangUp_41 rfl (Nat.le_of_ble_eq_true rfl) rfl ⟨Nat.le_of_ble_eq_true rfl, Nat.le_of_ble_eq_true rfl⟩ ?_
      rintro v G9 ⟨rfl, r2, hR2, hag2, hk2, hring2⟩
      refine zz_aload_n (pc := 44) C dX3_hangUp_44 rfl ?_
      refine zz_callV (pc := 45) C (c_xgoes l D hR2 (N := N) hr9 (hag2.tr (zAg_zu (zAg_zu hag))) hring2) gX3_hangUp_X3_goes rfl 0 (by decide +kernel) ⟨Nat.le_of_ble_eq_true rfl, Nat.le_of_ble_eq_true rfl⟩ hR2.2.1 (ci := 3) rfl rfl rfl dX3_hangUp_45 rfl (Nat.le_of_ble_eq_true rfl) rfl ⟨Nat.le_of_ble_eq_true rfl, Nat.le_of_ble_eq_true rfl⟩ ?_
      rintro v G9 ⟨rfl, r3, hR3, hag3, h233, hring3⟩
      refine zz_iload_n (pc := 48) C dX3_hangUp_48 rfl ?_
      exact zz_ireturn (pc := 49) C dX3_hangUp_49 rfl (Nat.le_refl _) (Nat.le_refl _) ⟨zvok hT (rfl), zMod.ok hT hR3 hag3 ((congrFun (h233.trans (hk2 23 (by decide))) 0).trans h23) hring3⟩
    · exact (z01 hc17).elim
  have k1 : ∀ w9 : Int32, zE1 (σ 21 0 = -1) = w9 → 0 < w9 → zV p l e ({ frames := 7, cells := 0, slots := 0, locals := 163 } : Room) s m args below meth c D (zA G s.heap.size) 0 0 (zZ below D G (fun v G9 => v = some (.int (if zE1 (σ 21 0 = -1) = 0 then σ 21 0 else 0)) ∧ zMod B y ma (if zE1 (σ 21 0 = -1) = 0 then zFin N (zFreeT σ, [(0, pn (σ 21 0))]) else σ) [] (zE1 (σ 21 0 = -1)) G9) args s ({ frames := 7, cells := 0, slots := 0, locals := 163 } : Room)) G 14 [some (.ref y), none] [.int w9, .ref y] := by
    intro w9 hT hw9
    refine zz_callV (pc := 14) C (c_X3_fails l D hR (w := w9)) gX3_hangUp_X3_fails rfl 1 (by decide +kernel) ⟨Nat.le_of_ble_eq_true rfl, Nat.le_of_ble_eq_true rfl⟩ hR.2.1 (ci := 3) rfl rfl rfl dX3_hangUp_14 rfl (Nat.le_of_ble_eq_true rfl) rfl ⟨Nat.le_of_ble_eq_true rfl, Nat.le_of_ble_eq_true rfl⟩ ?_
    rintro v G9 ⟨rfl, hR⟩
    have hag : zAg (zu (zMix σ t9) 23 0 w9) σ := zAg_off hag (by decide)
    have hring : zRing (zu (zMix σ t9) 23 0 w9) [] := hring.ag rfl rfl rfl
    have h23 : (zu (zMix σ t9) 23 0 w9) 23 0 = w9 := zu_self
    refine zz_if_eq (pc := 17) C (tgt := 22) dX3_hangUp_17 (by decide) (fun hc17 => ?_) (fun hc17 => ?_)
    · exact (zw0 hc17 hw9).elim
    · refine zz_iconst (pc := 20) C (v := 0) (by decide) dX3_hangUp_20 ?_
      exact zz_ireturn (pc := 21) C dX3_hangUp_21 (by first | rfl | decide) (Nat.le_refl _) (Nat.le_refl _) ⟨zvno hT hw9, zMod.no hT hw9 hR hag h23 hring⟩
  refine zz_aload_n (pc := 0) C dX3_hangUp_0 rfl ?_
  refine zz_aload_n (pc := 1) C dX3_hangUp_1 rfl ?_
  refine zz_get (pc := 2) C in_X3_hangUp_X3 (ci := 3) rfl 21 (by decide) (fl_X3_hangUp_74) rfl dX3_hangUp_2 hR.2.1 rfl ?_
  refine zz_iconst (pc := 5) C (v := -1) (by decide) dX3_hangUp_5 ?_
  refine zz_icmp_ne (pc := 6) C (tgt := 13) dX3_hangUp_6 (by decide) (fun hc6 => ?_) (fun hc6 => ?_)
  · refine zz_iconst (pc := 13) C (v := 0) (by decide) dX3_hangUp_13 ?_
    first
      | exact k0 (zE1_0 hc6)
      | exact k1 1 (zE1_1 (Classical.not_not.mp hc6)) (by decide)
  · refine zz_iconst (pc := 9) C (v := 1) (by decide) dX3_hangUp_9 ?_
    refine zz_goto (pc := 10) C (tgt := 14) dX3_hangUp_10 (by decide) ?_
    first
      | exact k0 (zE1_0 hc6)
      | exact k1 1 (zE1_1 (Classical.not_not.mp hc6)) (by decide)
